set_option maxHeartbeats 4000000 in
set_option maxRecDepth 100000 in
theorem kx_X9_add (l : Launch) (Z : gZ) (t0 : Nat) (t_bytes : Nat) (t_kinds : Nat) (t_places : Nat) (t_values : Nat) (Tb : Nat → Int) (nu : Int) (ts : Int) (tk : Int) (b_nu : (-2147483648) ≤ nu ∧ nu ≤ 2147483647) (b_ts : 0 ≤ ts ∧ ts ≤ 400) (b_tk : 0 ≤ tk ∧ tk ≤ 401) (h4 : ts ≤ 396) (h_Tb : ∀ j, j < 400 → 0 ≤ Tb j ∧ Tb j ≤ 255) : Con l Z yX9_add cX9_add 3 none 1 21 0 0 [.ref t0, .int (iI nu)] [cO_riirrr t0 9 t_bytes ts tk t_kinds t_places t_values, cA Z t_bytes 0 400 Tb] (fun r w' => ∃ (Tb2 : Nat → Int), (r = none) ∧ (w' = [cO_riirrr t0 9 t_bytes (ts + 1 + 1 + 1 + 1) tk t_kinds t_places t_values, cA Z t_bytes 0 400 Tb2]) ∧ (∀ j, j < 400 → 0 ≤ Tb2 j ∧ Tb2 j ≤ 255) ∧ (ts + 1 + 1 + 1 + 1 ≤ 400) ∧ (Tb2 = fd4 Tb ts nu)) := by
  refine enter (by decide) (Nat.le_of_ble_eq_true rfl) ?_
  intro p e s m args below meth c A X hnm hA
  have X : Cx p s m args meth c cX9_add 3 none RX9 Z A := X
  refine g_as (pc' := 0) (lv' := [(0, .ref t0), (1, .int (iI nu))]) (st' := []) (ws' := [cO_riirrr t0 9 t_bytes ts tk t_kinds t_places t_values, cA Z t_bytes 0 400 Tb]) rfl rfl rfl rfl ?_
  refine g_aload_n (pc := 0) X 0 rfl dX9_add_0 ?_
  refine g_iconst (pc := 1) X (iI 4) (by rfl) dX9_add_1 ?_
  refine g_callV (pc := 2) X (k_X9_hasSpaceFor l Z t0 t_bytes t_kinds t_places t_values 4 ts tk (by decide) b_ts b_tk) iM_X9_hasSpaceFor mw_10_13 mw_10_5 mw_10_6 0 rfl rfl [0] [1] rfl (wr := [cA Z t_bytes 0 400 Tb]) rfl (by decide) rfl rfl (Nat.le_of_ble_eq_true rfl) (by decide) dX9_add_2 (fun r w' hpo => ?_)
  obtain ⟨rfl, rfl⟩ := hpo
  refine g_as (pc' := 5) (lv' := [(0, .ref t0), (1, .int (iI nu))]) (st' := [.int (iI (bI (0 ≤ 4 ∧ 4 ≤ 400 - ts)))]) (ws' := [cA Z t_bytes 0 400 Tb, cO_riirrr t0 9 t_bytes ts tk t_kinds t_places t_values]) rfl rfl rfl rfl ?_
  refine g_if_neB (pc := 5) X 9 (by decide) dX9_add_5 (fun c5 => ?_) (fun h => absurd h (by omega))
  refine g_bipush (pc := 9) X (iI 24) (by decide) dX9_add_9 ?_
  refine g_istore_n (pc := 11) X (i := 2) rfl (by decide) (lv' := [(2, .int (iI 24)), (0, .ref t0), (1, .int (iI nu))]) rfl dX9_add_11 ?_
  refine g_iload_n (pc := 12) X 0 rfl dX9_add_12 ?_
  refine g_if_ltI (pc := 13) X 48 (by decide) ⟨by decide, by decide⟩ dX9_add_13 (fun h => absurd h (by decide)) (fun _ => ?_)
  refine g_aload_n (pc := 16) X 1 rfl dX9_add_16 ?_
  refine g_get (pc := 17) X inlX9 1 rfl rfl 0 (by decide) mw_3_12 rfl dX9_add_17 ?_
  refine g_aload_n (pc := 20) X 1 rfl dX9_add_20 ?_
  refine g_get (pc := 21) X inlX9 1 rfl rfl 1 (by decide) mw_10_8 rfl dX9_add_21 ?_
  refine g_iload_n (pc := 24) X 2 rfl dX9_add_24 ?_
  refine g_iload_n (pc := 25) X 0 rfl dX9_add_25 ?_
  refine g_iushr (pc := 26) X dX9_add_26 ?_
  refine g_lit (y := iI (us8 nu 24)) (us8_e _ _) ?_
  refine g_sipush (pc := 27) X (iI 255) (by decide) dX9_add_27 ?_
  refine g_iand (pc := 30) X dX9_add_30 ?_
  refine g_lit (y := iI (by8 nu 24)) (by8_e _ _) ?_
  have b8_2 := by8_b nu 24
  refine g_iastG (pc := 31) X 0 rfl (b_ts.1) (by omega) (Int.le_trans b_ts.2 (by decide)) (ws' := fun F3 => [cA Z t_bytes 0 400 F3, cO_riirrr t0 9 t_bytes ts tk t_kinds t_places t_values]) (fun _ => rfl) dX9_add_31 (fun F3 eF3 => ?_)
  have hF3 : ∀ j, j < 400 → 0 ≤ F3 j ∧ F3 j ≤ 255 := by rw [eF3]; exact updI_B h_Tb (by omega)
  refine g_aload_n (pc := 32) X 1 rfl dX9_add_32 ?_
  refine g_dup (pc := 33) X rfl dX9_add_33 ?_
  refine g_get (pc := 34) X inlX9 1 rfl rfl 1 (by decide) mw_10_8 rfl dX9_add_34 ?_
  refine g_iconst (pc := 37) X (iI 1) (by rfl) dX9_add_37 ?_
  refine g_iaddI (pc := 38) X dX9_add_38 ?_
  refine g_put (pc := 39) X inlX9 tyX9_ok nmX9 1 rfl rfl 1 (by decide) mw_10_8 rfl rfl rfl (Nat.le_of_ble_eq_true rfl) (ws' := [cA Z t_bytes 0 400 F3, cO_riirrr t0 9 t_bytes (ts + 1) tk t_kinds t_places t_values]) rfl dX9_add_39 ?_
  refine g_iinc (pc := 42) X 0 rfl (v := iI 16) (by rfl) (by decide) (lv' := [(2, .int (iI 16)), (0, .ref t0), (1, .int (iI nu))]) rfl dX9_add_42 ?_
  refine g_goto (pc := 45) X 12 (by decide) dX9_add_45 ?_
  refine g_iload_n (pc := 12) X 0 rfl dX9_add_12 ?_
  refine g_if_ltI (pc := 13) X 48 (by decide) ⟨by decide, by decide⟩ dX9_add_13 (fun h => absurd h (by decide)) (fun _ => ?_)
  refine g_aload_n (pc := 16) X 1 rfl dX9_add_16 ?_
  refine g_get (pc := 17) X inlX9 1 rfl rfl 0 (by decide) mw_3_12 rfl dX9_add_17 ?_
  refine g_aload_n (pc := 20) X 1 rfl dX9_add_20 ?_
  refine g_get (pc := 21) X inlX9 1 rfl rfl 1 (by decide) mw_10_8 rfl dX9_add_21 ?_
  refine g_iload_n (pc := 24) X 2 rfl dX9_add_24 ?_
  refine g_iload_n (pc := 25) X 0 rfl dX9_add_25 ?_
  refine g_iushr (pc := 26) X dX9_add_26 ?_
  refine g_lit (y := iI (us8 nu 16)) (us8_e _ _) ?_
  refine g_sipush (pc := 27) X (iI 255) (by decide) dX9_add_27 ?_
  refine g_iand (pc := 30) X dX9_add_30 ?_
  refine g_lit (y := iI (by8 nu 16)) (by8_e _ _) ?_
  have b8_4 := by8_b nu 16
  refine g_iastG (pc := 31) X 0 rfl (by omega) (by omega) (by omega) (ws' := fun F5 => [cA Z t_bytes 0 400 F5, cO_riirrr t0 9 t_bytes (ts + 1) tk t_kinds t_places t_values]) (fun _ => rfl) dX9_add_31 (fun F5 eF5 => ?_)
  have hF5 : ∀ j, j < 400 → 0 ≤ F5 j ∧ F5 j ≤ 255 := by rw [eF5]; exact updI_B hF3 (by omega)
  refine g_aload_n (pc := 32) X 1 rfl dX9_add_32 ?_
  refine g_dup (pc := 33) X rfl dX9_add_33 ?_
  refine g_get (pc := 34) X inlX9 1 rfl rfl 1 (by decide) mw_10_8 rfl dX9_add_34 ?_
  refine g_iconst (pc := 37) X (iI 1) (by rfl) dX9_add_37 ?_
  refine g_iaddI (pc := 38) X dX9_add_38 ?_
  refine g_put (pc := 39) X inlX9 tyX9_ok nmX9 1 rfl rfl 1 (by decide) mw_10_8 rfl rfl rfl (Nat.le_of_ble_eq_true rfl) (ws' := [cA Z t_bytes 0 400 F5, cO_riirrr t0 9 t_bytes ((ts + 1) + 1) tk t_kinds t_places t_values]) rfl dX9_add_39 ?_
  refine g_iinc (pc := 42) X 0 rfl (v := iI 8) (by rfl) (by decide) (lv' := [(2, .int (iI 8)), (0, .ref t0), (1, .int (iI nu))]) rfl dX9_add_42 ?_
  refine g_goto (pc := 45) X 12 (by decide) dX9_add_45 ?_
  refine g_iload_n (pc := 12) X 0 rfl dX9_add_12 ?_
  refine g_if_ltI (pc := 13) X 48 (by decide) ⟨by decide, by decide⟩ dX9_add_13 (fun h => absurd h (by decide)) (fun _ => ?_)
  refine g_aload_n (pc := 16) X 1 rfl dX9_add_16 ?_
  refine g_get (pc := 17) X inlX9 1 rfl rfl 0 (by decide) mw_3_12 rfl dX9_add_17 ?_
  refine g_aload_n (pc := 20) X 1 rfl dX9_add_20 ?_
  refine g_get (pc := 21) X inlX9 1 rfl rfl 1 (by decide) mw_10_8 rfl dX9_add_21 ?_
  refine g_iload_n (pc := 24) X 2 rfl dX9_add_24 ?_
  refine g_iload_n (pc := 25) X 0 rfl dX9_add_25 ?_
  refine g_iushr (pc := 26) X dX9_add_26 ?_
  refine g_lit (y := iI (us8 nu 8)) (us8_e _ _) ?_
  refine g_sipush (pc := 27) X (iI 255) (by decide) dX9_add_27 ?_
  refine g_iand (pc := 30) X dX9_add_30 ?_
  refine g_lit (y := iI (by8 nu 8)) (by8_e _ _) ?_
  have b8_6 := by8_b nu 8
  refine g_iastG (pc := 31) X 0 rfl (by omega) (by omega) (by omega) (ws' := fun F7 => [cA Z t_bytes 0 400 F7, cO_riirrr t0 9 t_bytes ((ts + 1) + 1) tk t_kinds t_places t_values]) (fun _ => rfl) dX9_add_31 (fun F7 eF7 => ?_)
  have hF7 : ∀ j, j < 400 → 0 ≤ F7 j ∧ F7 j ≤ 255 := by rw [eF7]; exact updI_B hF5 (by omega)
  refine g_aload_n (pc := 32) X 1 rfl dX9_add_32 ?_
  refine g_dup (pc := 33) X rfl dX9_add_33 ?_
  refine g_get (pc := 34) X inlX9 1 rfl rfl 1 (by decide) mw_10_8 rfl dX9_add_34 ?_
  refine g_iconst (pc := 37) X (iI 1) (by rfl) dX9_add_37 ?_
  refine g_iaddI (pc := 38) X dX9_add_38 ?_
  refine g_put (pc := 39) X inlX9 tyX9_ok nmX9 1 rfl rfl 1 (by decide) mw_10_8 rfl rfl rfl (Nat.le_of_ble_eq_true rfl) (ws' := [cA Z t_bytes 0 400 F7, cO_riirrr t0 9 t_bytes (((ts + 1) + 1) + 1) tk t_kinds t_places t_values]) rfl dX9_add_39 ?_
  refine g_iinc (pc := 42) X 0 rfl (v := iI 0) (by rfl) (by decide) (lv' := [(2, .int (iI 0)), (0, .ref t0), (1, .int (iI nu))]) rfl dX9_add_42 ?_
  refine g_goto (pc := 45) X 12 (by decide) dX9_add_45 ?_
  refine g_iload_n (pc := 12) X 0 rfl dX9_add_12 ?_
  refine g_if_ltI (pc := 13) X 48 (by decide) ⟨by decide, by decide⟩ dX9_add_13 (fun h => absurd h (by decide)) (fun _ => ?_)
  refine g_aload_n (pc := 16) X 1 rfl dX9_add_16 ?_
  refine g_get (pc := 17) X inlX9 1 rfl rfl 0 (by decide) mw_3_12 rfl dX9_add_17 ?_
  refine g_aload_n (pc := 20) X 1 rfl dX9_add_20 ?_
  refine g_get (pc := 21) X inlX9 1 rfl rfl 1 (by decide) mw_10_8 rfl dX9_add_21 ?_
  refine g_iload_n (pc := 24) X 2 rfl dX9_add_24 ?_
  refine g_iload_n (pc := 25) X 0 rfl dX9_add_25 ?_
  refine g_iushr (pc := 26) X dX9_add_26 ?_
  refine g_lit (y := iI (us8 nu 0)) (us8_e _ _) ?_
  refine g_sipush (pc := 27) X (iI 255) (by decide) dX9_add_27 ?_
  refine g_iand (pc := 30) X dX9_add_30 ?_
  refine g_lit (y := iI (by8 nu 0)) (by8_e _ _) ?_
  have b8_8 := by8_b nu 0
  refine g_iastG (pc := 31) X 0 rfl (by omega) (by omega) (by omega) (ws' := fun F9 => [cA Z t_bytes 0 400 F9, cO_riirrr t0 9 t_bytes (((ts + 1) + 1) + 1) tk t_kinds t_places t_values]) (fun _ => rfl) dX9_add_31 (fun F9 eF9 => ?_)
  have hF9 : ∀ j, j < 400 → 0 ≤ F9 j ∧ F9 j ≤ 255 := by rw [eF9]; exact updI_B hF7 (by omega)
  refine g_aload_n (pc := 32) X 1 rfl dX9_add_32 ?_
  refine g_dup (pc := 33) X rfl dX9_add_33 ?_
  refine g_get (pc := 34) X inlX9 1 rfl rfl 1 (by decide) mw_10_8 rfl dX9_add_34 ?_
  refine g_iconst (pc := 37) X (iI 1) (by rfl) dX9_add_37 ?_
  refine g_iaddI (pc := 38) X dX9_add_38 ?_
  refine g_put (pc := 39) X inlX9 tyX9_ok nmX9 1 rfl rfl 1 (by decide) mw_10_8 rfl rfl rfl (Nat.le_of_ble_eq_true rfl) (ws' := [cA Z t_bytes 0 400 F9, cO_riirrr t0 9 t_bytes ((((ts + 1) + 1) + 1) + 1) tk t_kinds t_places t_values]) rfl dX9_add_39 ?_
  refine g_iinc (pc := 42) X 0 rfl (v := iI (-8)) (by rfl) (by decide) (lv' := [(2, .int (iI (-8))), (0, .ref t0), (1, .int (iI nu))]) rfl dX9_add_42 ?_
  refine g_goto (pc := 45) X 12 (by decide) dX9_add_45 ?_
  refine g_iload_n (pc := 12) X 0 rfl dX9_add_12 ?_
  refine g_if_ltI (pc := 13) X 48 (by decide) ⟨by decide, by decide⟩ dX9_add_13 (fun _ => ?_) (fun h => absurd h (by decide))
  refine g_ws (ws' := [cO_riirrr t0 9 t_bytes ((((ts + 1) + 1) + 1) + 1) tk t_kinds t_places t_values, cA Z t_bytes 0 400 F9]) [1, 0] (by decide) rfl ?_
  exact g_vret (pc := 48) X hA (⟨F9, rfl, rfl, (hF9), (by omega), (by rw [eF9, eF7, eF5, eF3]; rfl)⟩) (by decide) (by decide) dX9_add_48

set_option maxHeartbeats 4000000 in
set_option maxRecDepth 100000 in
theorem kx_X11_feed (l : Launch) (Z : gZ) (o0 : Nat) (t0 : Nat) (e0 : Nat) (ra : Nat) (pa : Nat) (s0 : Nat) (ia : Nat) (l0 : Nat) (q0 : Nat) (j0 : Nat) (h0 : Nat) (y0 : Nat) (sp0 : Nat) (t_bytes : Nat) (t_kinds : Nat) (t_places : Nat) (t_values : Nat) (Tb : Nat → Int) (Tk : Nat → Int) (Tp : Nat → Int) (Tv : Nat → Int) (a1 : Int) (a2 : Int) (a3 : Int) (a4 : Int) (a5 : Int) (nr : Int) (np : Int) (tn : Int) (ts : Int) (tk : Int) (b_a1 : (-2147483648) ≤ a1 ∧ a1 ≤ 2147483647) (b_a2 : (-2147483648) ≤ a2 ∧ a2 ≤ 2147483647) (b_a3 : (-2147483648) ≤ a3 ∧ a3 ≤ 2147483647) (b_a4 : (-2147483648) ≤ a4 ∧ a4 ≤ 2147483647) (b_a5 : (-2147483648) ≤ a5 ∧ a5 ≤ 2147483647) (b_nr : 0 ≤ nr ∧ nr ≤ 6) (b_np : 0 ≤ np ∧ np ≤ 4) (b_tn : 0 ≤ tn ∧ tn ≤ 20) (b_ts : 0 ≤ ts ∧ ts ≤ 400) (b_tk : 0 ≤ tk ∧ tk ≤ 401) (h_Tb : ∀ j, j < 400 → 0 ≤ Tb j ∧ Tb j ≤ 255) (h_Tk : ∀ j, j < 401 → 0 ≤ Tk j ∧ Tk j ≤ 10) (h_Tp : ∀ j, j < 401 → 0 ≤ Tp j ∧ Tp j ≤ 400) (h_Tv : ∀ j, j < 401 → 0 ≤ Tv j ∧ Tv j ≤ 100000) : Con l Z yX11_feed cX11_feed 6 (some .int) 2 43 0 0 [.ref o0, .int (iI a1), .int (iI a2), .int (iI a3), .int (iI a4), .int (iI a5)] [cO_rrrrrrrrrrrriii o0 11 t0 e0 ra pa s0 ia l0 q0 j0 h0 y0 sp0 nr np tn, cO_riirrr t0 9 t_bytes ts tk t_kinds t_places t_values, cA Z t_bytes 0 400 Tb, cA Z t_kinds 0 401 Tk, cA Z t_places 0 401 Tp, cA Z t_values 0 401 Tv] (fun r w' => ((r = some (.int (iI (-1)))) ∧ (w' = [cO_rrrrrrrrrrrriii o0 11 t0 e0 ra pa s0 ia l0 q0 j0 h0 y0 sp0 nr np tn, cO_riirrr t0 9 t_bytes ts tk t_kinds t_places t_values, cA Z t_bytes 0 400 Tb, cA Z t_kinds 0 401 Tk, cA Z t_places 0 401 Tp, cA Z t_values 0 401 Tv]) ∧ (380 < ts)) ∨ (∃ (Tb2 : Nat → Int), (r = some (.int (iI (ts + 1 + 1 + 1 + 1 + 1 + 1 + 1 + 1 + 1 + 1 + 1 + 1 + 1 + 1 + 1 + 1 + 1 + 1 + 1 + 1)))) ∧ (w' = [cO_rrrrrrrrrrrriii o0 11 t0 e0 ra pa s0 ia l0 q0 j0 h0 y0 sp0 nr np tn, cO_riirrr t0 9 t_bytes (ts + 1 + 1 + 1 + 1 + 1 + 1 + 1 + 1 + 1 + 1 + 1 + 1 + 1 + 1 + 1 + 1 + 1 + 1 + 1 + 1) tk t_kinds t_places t_values, cA Z t_bytes 0 400 Tb2, cA Z t_kinds 0 401 Tk, cA Z t_places 0 401 Tp, cA Z t_values 0 401 Tv]) ∧ (∀ j, j < 400 → 0 ≤ Tb2 j ∧ Tb2 j ≤ 255) ∧ (ts ≤ 380) ∧ (Tb2 = fd20 Tb ts a1 a2 a3 a4 a5))) := by
  refine enter (by decide) (Nat.le_of_ble_eq_true rfl) ?_
  intro p e s m args below meth c A X hnm hA
  have X : Cx p s m args meth c cX11_feed 6 (some .int) RX11 Z A := X
  refine g_as (pc' := 0) (lv' := [(0, .ref o0), (1, .int (iI a1)), (2, .int (iI a2)), (3, .int (iI a3)), (4, .int (iI a4)), (5, .int (iI a5))]) (st' := []) (ws' := [cO_rrrrrrrrrrrriii o0 11 t0 e0 ra pa s0 ia l0 q0 j0 h0 y0 sp0 nr np tn, cO_riirrr t0 9 t_bytes ts tk t_kinds t_places t_values, cA Z t_bytes 0 400 Tb, cA Z t_kinds 0 401 Tk, cA Z t_places 0 401 Tp, cA Z t_values 0 401 Tv]) rfl rfl rfl rfl ?_
  refine g_aload_n (pc := 0) X 0 rfl dX11_feed_0 ?_
  refine g_get (pc := 1) X inlX11 0 rfl rfl 0 (by decide) mw_1_15 rfl dX11_feed_1 ?_
  refine g_bipush (pc := 4) X (iI 20) (by decide) dX11_feed_4 ?_
  refine g_callV (pc := 6) X (k_X9_hasSpaceFor l Z t0 t_bytes t_kinds t_places t_values 20 ts tk (by decide) b_ts b_tk) iM_X9_hasSpaceFor mw_10_4 mw_10_5 mw_10_6 1 rfl rfl [1] [0, 2, 3, 4, 5] rfl (wr := [cO_rrrrrrrrrrrriii o0 11 t0 e0 ra pa s0 ia l0 q0 j0 h0 y0 sp0 nr np tn, cA Z t_bytes 0 400 Tb, cA Z t_kinds 0 401 Tk, cA Z t_places 0 401 Tp, cA Z t_values 0 401 Tv]) rfl (by decide) rfl rfl (Nat.le_of_ble_eq_true rfl) (by decide) dX11_feed_6 (fun r w' hpo => ?_)
  obtain ⟨rfl, rfl⟩ := hpo
  refine g_as (pc' := 9) (lv' := [(0, .ref o0), (1, .int (iI a1)), (2, .int (iI a2)), (3, .int (iI a3)), (4, .int (iI a4)), (5, .int (iI a5))]) (st' := [.int (iI (bI (0 ≤ 20 ∧ 20 ≤ 400 - ts)))]) (ws' := [cO_rrrrrrrrrrrriii o0 11 t0 e0 ra pa s0 ia l0 q0 j0 h0 y0 sp0 nr np tn, cA Z t_bytes 0 400 Tb, cA Z t_kinds 0 401 Tk, cA Z t_places 0 401 Tp, cA Z t_values 0 401 Tv, cO_riirrr t0 9 t_bytes ts tk t_kinds t_places t_values]) rfl rfl rfl rfl ?_
  refine g_if_neB (pc := 9) X 14 (by decide) dX11_feed_9 (fun c9 => ?_) (fun c9 => ?_)
  · refine g_aload_n (pc := 14) X 0 rfl dX11_feed_14 ?_
    refine g_get (pc := 15) X inlX11 0 rfl rfl 0 (by decide) mw_1_15 rfl dX11_feed_15 ?_
    refine g_iload_n (pc := 18) X 1 rfl dX11_feed_18 ?_
    refine g_callV (pc := 19) X (kx_X9_add l Z t0 t_bytes t_kinds t_places t_values Tb a1 ts tk b_a1 b_ts b_tk (by (first | (clear b_a1 b_a2 b_a3 b_a4 b_a5 b_nr b_np b_tn b_tk; omega) | omega)) (h_Tb)) iM_X9_add mw_10_9 mw_10_10 mw_10_11 5 rfl rfl [5, 1] [0, 2, 3, 4] rfl (wr := [cO_rrrrrrrrrrrriii o0 11 t0 e0 ra pa s0 ia l0 q0 j0 h0 y0 sp0 nr np tn, cA Z t_kinds 0 401 Tk, cA Z t_places 0 401 Tp, cA Z t_values 0 401 Tv]) rfl (by decide) rfl rfl (Nat.le_of_ble_eq_true rfl) (by decide) dX11_feed_19 (fun r w' hpo => ?_)
    refine exN_1 hpo fun F2 hz => anD_5 hz fun e_r e_w hf19_h_Tb2 hf19_f1 hf19_fT => ?_; clear hz hpo; subst e_r; subst e_w
    refine g_as (pc' := 22) (lv' := [(0, .ref o0), (1, .int (iI a1)), (2, .int (iI a2)), (3, .int (iI a3)), (4, .int (iI a4)), (5, .int (iI a5))]) (st' := []) (ws' := [cO_rrrrrrrrrrrriii o0 11 t0 e0 ra pa s0 ia l0 q0 j0 h0 y0 sp0 nr np tn, cA Z t_kinds 0 401 Tk, cA Z t_places 0 401 Tp, cA Z t_values 0 401 Tv, cO_riirrr t0 9 t_bytes (ts + 1 + 1 + 1 + 1) tk t_kinds t_places t_values, cA Z t_bytes 0 400 F2]) rfl rfl rfl rfl ?_
    refine g_aload_n (pc := 22) X 0 rfl dX11_feed_22 ?_
    refine g_get (pc := 23) X inlX11 0 rfl rfl 0 (by decide) mw_1_15 rfl dX11_feed_23 ?_
    refine g_iload_n (pc := 26) X 2 rfl dX11_feed_26 ?_
    refine g_callV (pc := 27) X (kx_X9_add l Z t0 t_bytes t_kinds t_places t_values F2 a2 (ts + 1 + 1 + 1 + 1) tk b_a2 (by (first | (clear b_a1 b_a2 b_a3 b_a4 b_a5 b_nr b_np b_tn b_tk; omega) | omega)) b_tk (by (first | (clear b_a1 b_a2 b_a3 b_a4 b_a5 b_nr b_np b_tn b_tk; omega) | omega)) (hf19_h_Tb2)) iM_X9_add mw_10_9 mw_10_10 mw_10_11 4 rfl rfl [4, 5] [0, 1, 2, 3] rfl (wr := [cO_rrrrrrrrrrrriii o0 11 t0 e0 ra pa s0 ia l0 q0 j0 h0 y0 sp0 nr np tn, cA Z t_kinds 0 401 Tk, cA Z t_places 0 401 Tp, cA Z t_values 0 401 Tv]) rfl (by decide) rfl rfl (Nat.le_of_ble_eq_true rfl) (by decide) dX11_feed_27 (fun r w' hpo => ?_)
    refine exN_1 hpo fun F4 hz => anD_5 hz fun e_r e_w hf27_h_Tb2 hf27_f1 hf27_fT => ?_; clear hz hpo; subst e_r; subst e_w
    refine g_as (pc' := 30) (lv' := [(0, .ref o0), (1, .int (iI a1)), (2, .int (iI a2)), (3, .int (iI a3)), (4, .int (iI a4)), (5, .int (iI a5))]) (st' := []) (ws' := [cO_rrrrrrrrrrrriii o0 11 t0 e0 ra pa s0 ia l0 q0 j0 h0 y0 sp0 nr np tn, cA Z t_kinds 0 401 Tk, cA Z t_places 0 401 Tp, cA Z t_values 0 401 Tv, cO_riirrr t0 9 t_bytes ((ts + 1 + 1 + 1 + 1) + 1 + 1 + 1 + 1) tk t_kinds t_places t_values, cA Z t_bytes 0 400 F4]) rfl rfl rfl rfl ?_
    refine g_aload_n (pc := 30) X 0 rfl dX11_feed_30 ?_
    refine g_get (pc := 31) X inlX11 0 rfl rfl 0 (by decide) mw_1_15 rfl dX11_feed_31 ?_
    refine g_iload_n (pc := 34) X 3 rfl dX11_feed_34 ?_
    refine g_callV (pc := 35) X (kx_X9_add l Z t0 t_bytes t_kinds t_places t_values F4 a3 ((ts + 1 + 1 + 1 + 1) + 1 + 1 + 1 + 1) tk b_a3 (by (first | (clear b_a1 b_a2 b_a3 b_a4 b_a5 b_nr b_np b_tn b_tk; omega) | omega)) b_tk (by (first | (clear b_a1 b_a2 b_a3 b_a4 b_a5 b_nr b_np b_tn b_tk; omega) | omega)) (hf27_h_Tb2)) iM_X9_add mw_10_9 mw_10_10 mw_10_11 4 rfl rfl [4, 5] [0, 1, 2, 3] rfl (wr := [cO_rrrrrrrrrrrriii o0 11 t0 e0 ra pa s0 ia l0 q0 j0 h0 y0 sp0 nr np tn, cA Z t_kinds 0 401 Tk, cA Z t_places 0 401 Tp, cA Z t_values 0 401 Tv]) rfl (by decide) rfl rfl (Nat.le_of_ble_eq_true rfl) (by decide) dX11_feed_35 (fun r w' hpo => ?_)
    refine exN_1 hpo fun F6 hz => anD_5 hz fun e_r e_w hf35_h_Tb2 hf35_f1 hf35_fT => ?_; clear hz hpo; subst e_r; subst e_w
    refine g_as (pc' := 38) (lv' := [(0, .ref o0), (1, .int (iI a1)), (2, .int (iI a2)), (3, .int (iI a3)), (4, .int (iI a4)), (5, .int (iI a5))]) (st' := []) (ws' := [cO_rrrrrrrrrrrriii o0 11 t0 e0 ra pa s0 ia l0 q0 j0 h0 y0 sp0 nr np tn, cA Z t_kinds 0 401 Tk, cA Z t_places 0 401 Tp, cA Z t_values 0 401 Tv, cO_riirrr t0 9 t_bytes (((ts + 1 + 1 + 1 + 1) + 1 + 1 + 1 + 1) + 1 + 1 + 1 + 1) tk t_kinds t_places t_values, cA Z t_bytes 0 400 F6]) rfl rfl rfl rfl ?_
    refine g_aload_n (pc := 38) X 0 rfl dX11_feed_38 ?_
    refine g_get (pc := 39) X inlX11 0 rfl rfl 0 (by decide) mw_1_15 rfl dX11_feed_39 ?_
    refine g_iload (pc := 42) X 4 rfl dX11_feed_42 ?_
    refine g_callV (pc := 44) X (kx_X9_add l Z t0 t_bytes t_kinds t_places t_values F6 a4 (((ts + 1 + 1 + 1 + 1) + 1 + 1 + 1 + 1) + 1 + 1 + 1 + 1) tk b_a4 (by (first | (clear b_a1 b_a2 b_a3 b_a4 b_a5 b_nr b_np b_tn b_tk; omega) | omega)) b_tk (by (first | (clear b_a1 b_a2 b_a3 b_a4 b_a5 b_nr b_np b_tn b_tk; omega) | omega)) (hf35_h_Tb2)) iM_X9_add mw_10_9 mw_10_10 mw_10_11 4 rfl rfl [4, 5] [0, 1, 2, 3] rfl (wr := [cO_rrrrrrrrrrrriii o0 11 t0 e0 ra pa s0 ia l0 q0 j0 h0 y0 sp0 nr np tn, cA Z t_kinds 0 401 Tk, cA Z t_places 0 401 Tp, cA Z t_values 0 401 Tv]) rfl (by decide) rfl rfl (Nat.le_of_ble_eq_true rfl) (by decide) dX11_feed_44 (fun r w' hpo => ?_)
    refine exN_1 hpo fun F8 hz => anD_5 hz fun e_r e_w hf44_h_Tb2 hf44_f1 hf44_fT => ?_; clear hz hpo; subst e_r; subst e_w
    refine g_as (pc' := 47) (lv' := [(0, .ref o0), (1, .int (iI a1)), (2, .int (iI a2)), (3, .int (iI a3)), (4, .int (iI a4)), (5, .int (iI a5))]) (st' := []) (ws' := [cO_rrrrrrrrrrrriii o0 11 t0 e0 ra pa s0 ia l0 q0 j0 h0 y0 sp0 nr np tn, cA Z t_kinds 0 401 Tk, cA Z t_places 0 401 Tp, cA Z t_values 0 401 Tv, cO_riirrr t0 9 t_bytes ((((ts + 1 + 1 + 1 + 1) + 1 + 1 + 1 + 1) + 1 + 1 + 1 + 1) + 1 + 1 + 1 + 1) tk t_kinds t_places t_values, cA Z t_bytes 0 400 F8]) rfl rfl rfl rfl ?_
    refine g_aload_n (pc := 47) X 0 rfl dX11_feed_47 ?_
    refine g_get (pc := 48) X inlX11 0 rfl rfl 0 (by decide) mw_1_15 rfl dX11_feed_48 ?_
    refine g_iload (pc := 51) X 5 rfl dX11_feed_51 ?_
    refine g_callV (pc := 53) X (kx_X9_add l Z t0 t_bytes t_kinds t_places t_values F8 a5 ((((ts + 1 + 1 + 1 + 1) + 1 + 1 + 1 + 1) + 1 + 1 + 1 + 1) + 1 + 1 + 1 + 1) tk b_a5 (by (first | (clear b_a1 b_a2 b_a3 b_a4 b_a5 b_nr b_np b_tn b_tk; omega) | omega)) b_tk (by (first | (clear b_a1 b_a2 b_a3 b_a4 b_a5 b_nr b_np b_tn b_tk; omega) | omega)) (hf44_h_Tb2)) iM_X9_add mw_10_9 mw_10_10 mw_10_11 4 rfl rfl [4, 5] [0, 1, 2, 3] rfl (wr := [cO_rrrrrrrrrrrriii o0 11 t0 e0 ra pa s0 ia l0 q0 j0 h0 y0 sp0 nr np tn, cA Z t_kinds 0 401 Tk, cA Z t_places 0 401 Tp, cA Z t_values 0 401 Tv]) rfl (by decide) rfl rfl (Nat.le_of_ble_eq_true rfl) (by decide) dX11_feed_53 (fun r w' hpo => ?_)
    refine exN_1 hpo fun F10 hz => anD_5 hz fun e_r e_w hf53_h_Tb2 hf53_f1 hf53_fT => ?_; clear hz hpo; subst e_r; subst e_w
    refine g_as (pc' := 56) (lv' := [(0, .ref o0), (1, .int (iI a1)), (2, .int (iI a2)), (3, .int (iI a3)), (4, .int (iI a4)), (5, .int (iI a5))]) (st' := []) (ws' := [cO_rrrrrrrrrrrriii o0 11 t0 e0 ra pa s0 ia l0 q0 j0 h0 y0 sp0 nr np tn, cA Z t_kinds 0 401 Tk, cA Z t_places 0 401 Tp, cA Z t_values 0 401 Tv, cO_riirrr t0 9 t_bytes (((((ts + 1 + 1 + 1 + 1) + 1 + 1 + 1 + 1) + 1 + 1 + 1 + 1) + 1 + 1 + 1 + 1) + 1 + 1 + 1 + 1) tk t_kinds t_places t_values, cA Z t_bytes 0 400 F10]) rfl rfl rfl rfl ?_
    refine g_aload_n (pc := 56) X 0 rfl dX11_feed_56 ?_
    refine g_get (pc := 57) X inlX11 0 rfl rfl 0 (by decide) mw_1_15 rfl dX11_feed_57 ?_
    refine g_get (pc := 60) X inlX9 4 rfl rfl 1 (by decide) mw_10_3 rfl dX11_feed_60 ?_
    refine g_ws (ws' := [cO_rrrrrrrrrrrriii o0 11 t0 e0 ra pa s0 ia l0 q0 j0 h0 y0 sp0 nr np tn, cO_riirrr t0 9 t_bytes (((((ts + 1 + 1 + 1 + 1) + 1 + 1 + 1 + 1) + 1 + 1 + 1 + 1) + 1 + 1 + 1 + 1) + 1 + 1 + 1 + 1) tk t_kinds t_places t_values, cA Z t_bytes 0 400 F10, cA Z t_kinds 0 401 Tk, cA Z t_places 0 401 Tp, cA Z t_values 0 401 Tv]) [0, 4, 5, 1, 2, 3] (by decide) rfl ?_
    exact g_iret (pc := 63) X hA (Or.inr (⟨F10, rfl, rfl, (hf53_h_Tb2), (by (first | (clear b_a1 b_a2 b_a3 b_a4 b_a5 b_nr b_np b_tn b_tk; omega) | omega)), (by rw [hf53_fT, hf44_fT, hf35_fT, hf27_fT, hf19_fT]; rfl)⟩)) (by decide) (by decide) dX11_feed_63
  · refine g_iconst (pc := 12) X (iI (-1)) (by rfl) dX11_feed_12 ?_
    refine g_ws (ws' := [cO_rrrrrrrrrrrriii o0 11 t0 e0 ra pa s0 ia l0 q0 j0 h0 y0 sp0 nr np tn, cO_riirrr t0 9 t_bytes ts tk t_kinds t_places t_values, cA Z t_bytes 0 400 Tb, cA Z t_kinds 0 401 Tk, cA Z t_places 0 401 Tp, cA Z t_values 0 401 Tv]) [0, 5, 1, 2, 3, 4] (by decide) rfl ?_
    exact g_iret (pc := 13) X hA (Or.inl (⟨rfl, rfl, (by (first | (clear b_a1 b_a2 b_a3 b_a4 b_a5 b_nr b_np b_tn b_tk; omega) | omega))⟩)) (by decide) (by decide) dX11_feed_13

set_option maxHeartbeats 4000000 in
set_option maxRecDepth 100000 in
theorem kx_X9_endOf (l : Launch) (Z : gZ) (t0 : Nat) (t_bytes : Nat) (t_kinds : Nat) (t_places : Nat) (t_values : Nat) (Tb : Nat → Int) (pl : Int) (lo : Int) (hi : Int) (ts : Int) (tk : Int) (b_pl : 0 ≤ pl ∧ pl ≤ 400) (b_lo : (-2147483648) ≤ lo ∧ lo ≤ 2147483647) (b_hi : (-2147483648) ≤ hi ∧ hi ≤ 2147483647) (b_ts : 0 ≤ ts ∧ ts ≤ 400) (b_tk : 0 ≤ tk ∧ tk ≤ 401) (hp : pl ≤ ts) (h_Tb : ∀ j, j < 400 → 0 ≤ Tb j ∧ Tb j ≤ 255) : Con l Z yX9_endOf cX9_endOf 5 (some .int) 1 22 0 0 [.ref t0, .int (iI pl), .int (iI lo), .int (iI hi)] [cO_riirrr t0 9 t_bytes ts tk t_kinds t_places t_values, cA Z t_bytes 0 400 Tb] (fun r w' => ∃ (y : Int), (r = some (.int (iI y))) ∧ (w' = [cO_riirrr t0 9 t_bytes ts tk t_kinds t_places t_values, cA Z t_bytes 0 400 Tb]) ∧ (0 ≤ y ∧ y ≤ 400) ∧ (pl ≤ y) ∧ (y ≤ ts) ∧ (∀ j : Nat, pl ≤ j → (j : Int) < y → lo ≤ Tb j ∧ Tb j ≤ hi) ∧ (y = rne Tb ts lo hi 401 pl) ∧ (pl < ts → lo ≤ Tb pl.toNat → Tb pl.toNat ≤ hi → pl + 1 ≤ y)) := by
  refine enter (by decide) (Nat.le_of_ble_eq_true rfl) ?_
  intro p e s m args below meth c A X hnm hA
  have X : Cx p s m args meth c cX9_endOf 5 (some .int) RX9 Z A := X
  refine g_as (pc' := 0) (lv' := [(0, .ref t0), (1, .int (iI pl)), (2, .int (iI lo)), (3, .int (iI hi))]) (st' := []) (ws' := [cO_riirrr t0 9 t_bytes ts tk t_kinds t_places t_values, cA Z t_bytes 0 400 Tb]) rfl rfl rfl rfl ?_
  refine g_iload_n (pc := 0) X 1 rfl dX9_endOf_0 ?_
  refine g_istore (pc := 1) X (by decide) (lv' := [(4, .int (iI pl)), (0, .ref t0), (1, .int (iI pl)), (2, .int (iI lo)), (3, .int (iI hi))]) rfl dX9_endOf_1 ?_
  have loop3 : ∀ (fuel : Nat) (i : Int), (0 ≤ i ∧ i ≤ 400) → (pl ≤ i) → (i ≤ ts) → (∀ j : Nat, pl ≤ j → (j : Int) < i → lo ≤ Tb j ∧ Tb j ≤ hi) → (401 - i).toNat < fuel → Gs p l e ({ frames := 1, cells := 0, slots := 0, locals := 22 } : Room) s m args below meth c (MQ below (gPost Z [cO_riirrr t0 9 t_bytes ts tk t_kinds t_places t_values, cA Z t_bytes 0 400 Tb] s.heap.size (fun r w' => ∃ (y : Int), (r = some (.int (iI y))) ∧ (w' = [cO_riirrr t0 9 t_bytes ts tk t_kinds t_places t_values, cA Z t_bytes 0 400 Tb]) ∧ (0 ≤ y ∧ y ≤ 400) ∧ (pl ≤ y) ∧ (y ≤ ts) ∧ (∀ j : Nat, pl ≤ j → (j : Int) < y → lo ≤ Tb j ∧ Tb j ≤ hi) ∧ (y = rne Tb ts lo hi 401 pl) ∧ (pl < ts → lo ≤ Tb pl.toNat → Tb pl.toNat ≤ hi → pl + 1 ≤ y))) args s 0 0 (va_A [cO_riirrr t0 9 t_bytes ts tk t_kinds t_places t_values, cA Z t_bytes 0 400 Tb] s.heap.size)) Z A 5 0 0 3 [(4, .int (iI i)), (0, .ref t0), (1, .int (iI pl)), (2, .int (iI lo)), (3, .int (iI hi))] [] [cO_riirrr t0 9 t_bytes ts tk t_kinds t_places t_values, cA Z t_bytes 0 400 Tb] := by
    intro fuel
    induction fuel with
    | zero => intro i _ _ _ _ hm; exact absurd hm (Nat.not_lt_zero _)
    | succ fuel ih =>
      intro i b_i iv iv2 iv3 hm
      refine g_iload (pc := 3) X 0 rfl dX9_endOf_3 ?_
      refine g_aload_n (pc := 5) X 1 rfl dX9_endOf_5 ?_
      refine g_get (pc := 6) X inlX9 0 rfl rfl 1 (by decide) mw_10_8 rfl dX9_endOf_6 ?_
      refine g_icmp_geI (pc := 9) X 33 (by decide) (inRb b_i (by decide) (by decide)) (inRb b_ts (by decide) (by decide)) dX9_endOf_9 (fun c9 => ?_) (fun c9 => ?_)
      · refine g_iload (pc := 33) X 0 rfl dX9_endOf_33 ?_
        exact g_iret (pc := 35) X hA (⟨i, rfl, rfl, (b_i), (by omega), (by omega), (iv3), ((rne_eq 401 pl (by omega) (by omega) (by omega) (by omega) iv3 (fun h => absurd h (by omega))).symm), (fun a b c => Int.le_trans (rne_g1 a ⟨b, c⟩) (Int.le_of_eq (rne_eq 401 pl (by omega) (by omega) (by omega) (by omega) iv3 (fun h => absurd h (by omega)))))⟩) (by decide) (by decide) dX9_endOf_35
      · refine g_iload_n (pc := 12) X 3 rfl dX9_endOf_12 ?_
        refine g_aload_n (pc := 13) X 1 rfl dX9_endOf_13 ?_
        refine g_get (pc := 14) X inlX9 0 rfl rfl 0 (by decide) mw_3_12 rfl dX9_endOf_14 ?_
        refine g_iload (pc := 17) X 0 rfl dX9_endOf_17 ?_
        refine g_ialdI (pc := 19) X 1 rfl (b_i.1) (by omega) (Int.le_trans b_i.2 (by decide)) dX9_endOf_19 ?_
        refine g_nameI (fun y1 ey1 => ?_)
        have by1 : 0 ≤ y1 ∧ y1 ≤ 255 := by rw [ey1]; exact h_Tb _ (by omega)
        refine g_iload_n (pc := 20) X 4 rfl dX9_endOf_20 ?_
        refine g_callSN (pc := 21) X (k_X11_isFrom l Z lo y1 hi b_lo (by omega) b_hi) iM_X11_isFrom (by decide) mw_11_7 [] [0, 1] rfl (wr := [cO_riirrr t0 9 t_bytes ts tk t_kinds t_places t_values, cA Z t_bytes 0 400 Tb]) rfl (by decide) rfl rfl (Nat.le_of_ble_eq_true rfl) (by decide) dX9_endOf_21 (fun r w' hpo => ?_)
        obtain ⟨rfl, rfl⟩ := hpo
        refine g_as (pc' := 24) (lv' := [(4, .int (iI i)), (0, .ref t0), (1, .int (iI pl)), (2, .int (iI lo)), (3, .int (iI hi))]) (st' := [.int (iI (bI (lo ≤ y1 ∧ y1 ≤ hi)))]) (ws' := [cO_riirrr t0 9 t_bytes ts tk t_kinds t_places t_values, cA Z t_bytes 0 400 Tb]) rfl rfl rfl rfl ?_
        refine g_if_eqB (pc := 24) X 33 (by decide) dX9_endOf_24 (fun c24 => ?_) (fun c24 => ?_)
        · refine g_iload (pc := 33) X 0 rfl dX9_endOf_33 ?_
          exact g_iret (pc := 35) X hA (⟨i, rfl, rfl, (b_i), (by omega), (by omega), (iv3), ((rne_eq 401 pl (by omega) (by omega) (by omega) (by omega) iv3 (fun _ => by rw [← ey1]; exact c24)).symm), (fun a b c => Int.le_trans (rne_g1 a ⟨b, c⟩) (Int.le_of_eq (rne_eq 401 pl (by omega) (by omega) (by omega) (by omega) iv3 (fun _ => by rw [← ey1]; exact c24))))⟩) (by decide) (by decide) dX9_endOf_35
        · refine g_iincI (pc := 27) X 0 rfl (by decide) (lv' := [(4, .int (iI (i + 1))), (0, .ref t0), (1, .int (iI pl)), (2, .int (iI lo)), (3, .int (iI hi))]) rfl dX9_endOf_27 ?_
          refine g_goto (pc := 30) X 3 (by decide) dX9_endOf_30 ?_
          exact ih (i + 1) (by omega) (by omega) (by omega) (fun j h1 h2 => stepE iv3 (by omega) c24 ey1 j h1 h2) (by omega)
  exact loop3 _ pl (b_pl) (by omega) (by omega) (fun j h1 h2 => absurd h2 (by omega)) (Nat.lt_succ_self _)

set_option maxHeartbeats 4000000 in
set_option maxRecDepth 100000 in
theorem kx_X9_numberFrom (l : Launch) (Z : gZ) (t0 : Nat) (t_bytes : Nat) (t_kinds : Nat) (t_places : Nat) (t_values : Nat) (Tb : Nat → Int) (fr : Int) (to : Int) (ts : Int) (tk : Int) (b_fr : 0 ≤ fr ∧ fr ≤ 400) (b_to : 0 ≤ to ∧ to ≤ 400) (b_ts : 0 ≤ ts ∧ ts ≤ 400) (b_tk : 0 ≤ tk ∧ tk ≤ 401) (hd : ∀ j : Nat, fr ≤ j → (j : Int) < to → 48 ≤ Tb j ∧ Tb j ≤ 57) (hft : fr ≤ to) (h_Tb : ∀ j, j < 400 → 0 ≤ Tb j ∧ Tb j ≤ 255) : Con l Z yX9_numberFrom cX9_numberFrom 5 (some .int) 1 24 0 0 [.ref t0, .int (iI fr), .int (iI to)] [cO_riirrr t0 9 t_bytes ts tk t_kinds t_places t_values, cA Z t_bytes 0 400 Tb] (fun r w' => ∃ (y : Int), (r = some (.int (iI y))) ∧ (w' = [cO_riirrr t0 9 t_bytes ts tk t_kinds t_places t_values, cA Z t_bytes 0 400 Tb]) ∧ (0 ≤ y ∧ y ≤ 100000) ∧ (y = dvl Tb fr.toNat (to - fr).toNat)) := by
  refine enter (by decide) (Nat.le_of_ble_eq_true rfl) ?_
  intro p e s m args below meth c A X hnm hA
  have X : Cx p s m args meth c cX9_numberFrom 5 (some .int) RX9 Z A := X
  refine g_as (pc' := 0) (lv' := [(0, .ref t0), (1, .int (iI fr)), (2, .int (iI to))]) (st' := []) (ws' := [cO_riirrr t0 9 t_bytes ts tk t_kinds t_places t_values, cA Z t_bytes 0 400 Tb]) rfl rfl rfl rfl ?_
  refine g_iconst (pc := 0) X (iI 0) (by rfl) dX9_numberFrom_0 ?_
  refine g_istore_n (pc := 1) X (i := 3) rfl (by decide) (lv' := [(3, .int (iI 0)), (0, .ref t0), (1, .int (iI fr)), (2, .int (iI to))]) rfl dX9_numberFrom_1 ?_
  refine g_iload_n (pc := 2) X 2 rfl dX9_numberFrom_2 ?_
  refine g_istore (pc := 3) X (by decide) (lv' := [(4, .int (iI fr)), (3, .int (iI 0)), (0, .ref t0), (1, .int (iI fr)), (2, .int (iI to))]) rfl dX9_numberFrom_3 ?_
  have loop5 : ∀ (fuel : Nat) (v : Int) (i : Int), (0 ≤ v ∧ v ≤ 100000) → (0 ≤ i ∧ i ≤ 400) → (fr ≤ i) → (i ≤ to) → (v = dvl Tb fr.toNat (i - fr).toNat) → (401 - i).toNat < fuel → Gs p l e ({ frames := 1, cells := 0, slots := 0, locals := 24 } : Room) s m args below meth c (MQ below (gPost Z [cO_riirrr t0 9 t_bytes ts tk t_kinds t_places t_values, cA Z t_bytes 0 400 Tb] s.heap.size (fun r w' => ∃ (y : Int), (r = some (.int (iI y))) ∧ (w' = [cO_riirrr t0 9 t_bytes ts tk t_kinds t_places t_values, cA Z t_bytes 0 400 Tb]) ∧ (0 ≤ y ∧ y ≤ 100000) ∧ (y = dvl Tb fr.toNat (to - fr).toNat))) args s 0 0 (va_A [cO_riirrr t0 9 t_bytes ts tk t_kinds t_places t_values, cA Z t_bytes 0 400 Tb] s.heap.size)) Z A 5 0 0 5 [(4, .int (iI i)), (3, .int (iI v)), (0, .ref t0), (1, .int (iI fr)), (2, .int (iI to))] [] [cO_riirrr t0 9 t_bytes ts tk t_kinds t_places t_values, cA Z t_bytes 0 400 Tb] := by
    intro fuel
    induction fuel with
    | zero => intro v i _ _ _ _ _ hm; exact absurd hm (Nat.not_lt_zero _)
    | succ fuel ih =>
      intro v i b_v b_i iv iv2 ivd hm
      refine g_iload (pc := 5) X 0 rfl dX9_numberFrom_5 ?_
      refine g_iload_n (pc := 7) X 4 rfl dX9_numberFrom_7 ?_
      refine g_icmp_geI (pc := 8) X 38 (by decide) (inRb b_i (by decide) (by decide)) (inRb b_to (by decide) (by decide)) dX9_numberFrom_8 (fun c8 => ?_) (fun c8 => ?_)
      · refine g_iload_n (pc := 38) X 1 rfl dX9_numberFrom_38 ?_
        exact g_iret (pc := 39) X hA (⟨v, rfl, rfl, (b_v), (by rw [show (to - fr).toNat = (i - fr).toNat by omega]; exact ivd)⟩) (by decide) (by decide) dX9_numberFrom_39
      · refine g_ldc (pc := 11) X mw_15_11 dX9_numberFrom_11 ?_
        refine g_lit (y := iI 100000) (by decide) ?_
        refine g_iload_n (pc := 13) X 1 rfl dX9_numberFrom_13 ?_
        refine g_bipush (pc := 14) X (iI 10) (by decide) dX9_numberFrom_14 ?_
        refine g_imulI (pc := 16) X dX9_numberFrom_16 ?_
        refine g_aload_n (pc := 17) X 2 rfl dX9_numberFrom_17 ?_
        refine g_get (pc := 18) X inlX9 0 rfl rfl 0 (by decide) mw_3_12 rfl dX9_numberFrom_18 ?_
        refine g_iload (pc := 21) X 0 rfl dX9_numberFrom_21 ?_
        refine g_ialdI (pc := 23) X 1 rfl (b_i.1) (by omega) (Int.le_trans b_i.2 (by decide)) dX9_numberFrom_23 ?_
        refine g_nameI (fun y1 ey1 => ?_)
        have by1 : 0 ≤ y1 ∧ y1 ≤ 255 := by rw [ey1]; exact h_Tb _ (by omega)
        have ty1 : 48 ≤ y1 ∧ y1 ≤ 57 := by rw [ey1]; exact hd _ (by omega) (by omega)
        refine g_iaddI (pc := 24) X dX9_numberFrom_24 ?_
        refine g_bipush (pc := 25) X (iI 48) (by decide) dX9_numberFrom_25 ?_
        refine g_isubI (pc := 27) X dX9_numberFrom_27 ?_
        refine g_minI (pc := 28) X mw_15_12 mw_15_13 mw_25_23 mw_15_14 (by decide) (Nat.le_of_ble_eq_true rfl) (by decide) (by decide) ⟨by decide, by decide⟩ ⟨by omega, by omega⟩ dX9_numberFrom_28 ?_
        refine g_nameI (fun y2 ey2 => ?_)
        have my2 : y2 ≤ 100000 ∧ y2 ≤ ((v * 10) + y1) - 48 ∧ (y2 = 100000 ∨ y2 = ((v * 10) + y1) - 48) := by rw [ey2]; exact minF _ _
        clear ey2
        refine g_istore_n (pc := 31) X (i := 3) rfl (by decide) (lv' := [(3, .int (iI y2)), (4, .int (iI i)), (0, .ref t0), (1, .int (iI fr)), (2, .int (iI to))]) rfl dX9_numberFrom_31 ?_
        refine g_iincI (pc := 32) X 1 rfl (by decide) (lv' := [(4, .int (iI (i + 1))), (3, .int (iI y2)), (0, .ref t0), (1, .int (iI fr)), (2, .int (iI to))]) rfl dX9_numberFrom_32 ?_
        refine g_goto (pc := 35) X 5 (by decide) dX9_numberFrom_35 ?_
        exact ih y2 (i + 1) (by omega) (by omega) (by omega) (by omega) (dvl_s (by omega) (by omega) ivd (by omega)) (by omega)
  exact loop5 _ 0 fr (by omega) (b_fr) (by omega) (by omega) (by rw [show (fr - fr).toNat = 0 by omega]; rfl) (Nat.lt_succ_self _)

set_option maxHeartbeats 4000000 in
set_option maxRecDepth 100000 in
theorem kx_X9_signKind (l : Launch) (Z : gZ) (sg : Int) (b_sg : (-2147483648) ≤ sg ∧ sg ≤ 2147483647) : Con l Z yX9_signKind cX9_signKind 1 (some .int) 0 0 0 0 [.int (iI sg)] [] (fun r w' => ∃ (y : Int), (r = some (.int (iI y))) ∧ (w' = []) ∧ (7 ≤ y ∧ y ≤ 9) ∧ ((y = 7 ∧ sg = 45) ∨ (y = 8 ∧ sg = 59) ∨ (y = 9 ∧ ¬ sg = 45 ∧ ¬ sg = 59))) := by
  refine enter (by decide) (Nat.le_of_ble_eq_true rfl) ?_
  intro p e s m args below meth c A X hnm hA
  have X : Cx p s m args meth c cX9_signKind 1 (some .int) RX9 Z A := X
  refine g_as (pc' := 0) (lv' := [(0, .int (iI sg))]) (st' := []) (ws' := []) rfl rfl rfl rfl ?_
  refine g_iload_n (pc := 0) X 0 rfl dX9_signKind_0 ?_
  refine g_bipush (pc := 1) X (iI 45) (by decide) dX9_signKind_1 ?_
  refine g_icmp_neI (pc := 3) X 9 (by decide) b_sg ⟨by decide, by decide⟩ dX9_signKind_3 (fun c3 => ?_) (fun c3 => ?_)
  · refine g_iload_n (pc := 9) X 0 rfl dX9_signKind_9 ?_
    refine g_bipush (pc := 10) X (iI 59) (by decide) dX9_signKind_10 ?_
    refine g_icmp_neI (pc := 12) X 20 (by decide) b_sg ⟨by decide, by decide⟩ dX9_signKind_12 (fun c12 => ?_) (fun c12 => ?_)
    · refine g_bipush (pc := 20) X (iI 9) (by decide) dX9_signKind_20 ?_
      exact g_iret (pc := 22) X hA (⟨9, rfl, rfl, (by omega), (by omega)⟩) (by decide) (by decide) dX9_signKind_22
    · refine g_bipush (pc := 15) X (iI 8) (by decide) dX9_signKind_15 ?_
      refine g_goto (pc := 17) X 22 (by decide) dX9_signKind_17 ?_
      exact g_iret (pc := 22) X hA (⟨8, rfl, rfl, (by omega), (by omega)⟩) (by decide) (by decide) dX9_signKind_22
  · refine g_bipush (pc := 6) X (iI 7) (by decide) dX9_signKind_6 ?_
    exact g_iret (pc := 8) X hA (⟨7, rfl, rfl, (by omega), (by omega)⟩) (by decide) (by decide) dX9_signKind_8

set_option maxHeartbeats 4000000 in
set_option maxRecDepth 100000 in
theorem kx_X9_spells (l : Launch) (Z : gZ) (t0 : Nat) (t_bytes : Nat) (t_kinds : Nat) (t_places : Nat) (t_values : Nat) (sj : Nat) (Tb : Nat → Int) (fr : Int) (to : Int) (ts : Int) (tk : Int) (b_fr : 0 ≤ fr ∧ fr ≤ 400) (b_to : 0 ≤ to ∧ to ≤ 400) (b_ts : 0 ≤ ts ∧ ts ≤ 400) (b_tk : 0 ≤ tk ∧ tk ≤ 401) (hsj : sj < 5) (h_Tb : ∀ j, j < 400 → 0 ≤ Tb j ∧ Tb j ≤ 255) : Con l Z yX9_spells cX9_spells 5 (some .boolean) 4 85 0 0 [.ref t0, .ref (Z.2.2.1 sj), .int (iI fr), .int (iI to)] [cO_riirrr t0 9 t_bytes ts tk t_kinds t_places t_values, cA Z t_bytes 0 400 Tb] (fun r w' => (r = some (.int (iI (bI (spl Tb fr to sj))))) ∧ (w' = [cO_riirrr t0 9 t_bytes ts tk t_kinds t_places t_values, cA Z t_bytes 0 400 Tb])) := by
  refine enter (by decide) (Nat.le_of_ble_eq_true rfl) ?_
  intro p e s m args below meth c A X hnm hA
  have X : Cx p s m args meth c cX9_spells 5 (some .boolean) RX9 Z A := X
  refine g_as (pc' := 0) (lv' := [(0, .ref t0), (1, .ref (Z.2.2.1 sj)), (2, .int (iI fr)), (3, .int (iI to))]) (st' := []) (ws' := [cO_riirrr t0 9 t_bytes ts tk t_kinds t_places t_values, cA Z t_bytes 0 400 Tb]) rfl rfl rfl rfl ?_
  refine g_iload_n (pc := 0) X 3 rfl dX9_spells_0 ?_
  refine g_iload_n (pc := 1) X 2 rfl dX9_spells_1 ?_
  refine g_isubI (pc := 2) X dX9_spells_2 ?_
  refine g_aload_n (pc := 3) X 1 rfl dX9_spells_3 ?_
  refine g_callVS (pc := 4) (j := sj) X hsj (k_J0_length_8abf5 l Z sj (hsj)) iM_J0_length_8abf5 rfl mw_13_2 mw_13_3 mw_13_4 [] [0, 1] rfl (wr := [cO_riirrr t0 9 t_bytes ts tk t_kinds t_places t_values, cA Z t_bytes 0 400 Tb]) rfl (by decide) rfl rfl (Nat.le_of_ble_eq_true rfl) (by decide) dX9_spells_4 (fun r w' hpo => ?_)
  obtain ⟨rfl, rfl, hf4_fl⟩ := hpo
  refine g_as (pc' := 7) (lv' := [(0, .ref t0), (1, .ref (Z.2.2.1 sj)), (2, .int (iI fr)), (3, .int (iI to))]) (st' := [.int (iI ((gLen.getD sj 0 : Nat) : Int)), .int (iI (to - fr))]) (ws' := [cO_riirrr t0 9 t_bytes ts tk t_kinds t_places t_values, cA Z t_bytes 0 400 Tb]) rfl rfl rfl rfl ?_
  refine g_icmp_eqI (pc := 7) X 12 (by decide) ⟨by omega, by omega⟩ ⟨by omega, by omega⟩ dX9_spells_7 (fun c7 => ?_) (fun c7 => ?_)
  · refine g_iconst (pc := 12) X (iI 0) (by rfl) dX9_spells_12 ?_
    refine g_istore (pc := 13) X (by decide) (lv' := [(4, .int (iI 0)), (0, .ref t0), (1, .ref (Z.2.2.1 sj)), (2, .int (iI fr)), (3, .int (iI to))]) rfl dX9_spells_13 ?_
    have loop15 : ∀ (fuel : Nat) (i : Int), (0 ≤ i ∧ i ≤ 7) → (((gLen.getD sj 0 : Nat) : Int) ≤ 6) → (to - fr = ((gLen.getD sj 0 : Nat) : Int)) → (∀ q : Nat, (q : Int) < i → Tb (fr.toNat + q) = gCh sj q) → (8 - i).toNat < fuel → Gs p l e ({ frames := 4, cells := 0, slots := 0, locals := 85 } : Room) s m args below meth c (MQ below (gPost Z [cO_riirrr t0 9 t_bytes ts tk t_kinds t_places t_values, cA Z t_bytes 0 400 Tb] s.heap.size (fun r w' => (r = some (.int (iI (bI (spl Tb fr to sj))))) ∧ (w' = [cO_riirrr t0 9 t_bytes ts tk t_kinds t_places t_values, cA Z t_bytes 0 400 Tb]))) args s 0 0 (va_A [cO_riirrr t0 9 t_bytes ts tk t_kinds t_places t_values, cA Z t_bytes 0 400 Tb] s.heap.size)) Z A 5 0 0 15 [(4, .int (iI i)), (0, .ref t0), (1, .ref (Z.2.2.1 sj)), (2, .int (iI fr)), (3, .int (iI to))] [] [cO_riirrr t0 9 t_bytes ts tk t_kinds t_places t_values, cA Z t_bytes 0 400 Tb] := by
      intro fuel
      induction fuel with
      | zero => intro i _ _ _ _ hm; exact absurd hm (Nat.not_lt_zero _)
      | succ fuel ih =>
        intro i b_i hL iv ivs hm
        refine g_iload (pc := 15) X 0 rfl dX9_spells_15 ?_
        refine g_aload_n (pc := 17) X 2 rfl dX9_spells_17 ?_
        refine g_callVS (pc := 18) (j := sj) X hsj (k_J0_length_8abf5 l Z sj (hsj)) iM_J0_length_8abf5 rfl mw_13_2 mw_13_3 mw_13_4 [] [0, 1] rfl (wr := [cO_riirrr t0 9 t_bytes ts tk t_kinds t_places t_values, cA Z t_bytes 0 400 Tb]) rfl (by decide) rfl rfl (Nat.le_of_ble_eq_true rfl) (by decide) dX9_spells_18 (fun r w' hpo => ?_)
        obtain ⟨rfl, rfl, hf18_fl⟩ := hpo
        refine g_as (pc' := 21) (lv' := [(4, .int (iI i)), (0, .ref t0), (1, .ref (Z.2.2.1 sj)), (2, .int (iI fr)), (3, .int (iI to))]) (st' := [.int (iI ((gLen.getD sj 0 : Nat) : Int)), .int (iI i)]) (ws' := [cO_riirrr t0 9 t_bytes ts tk t_kinds t_places t_values, cA Z t_bytes 0 400 Tb]) rfl rfl rfl rfl ?_
        refine g_icmp_geI (pc := 21) X 50 (by decide) (inRb b_i (by decide) (by decide)) ⟨by omega, by omega⟩ dX9_spells_21 (fun c21 => ?_) (fun c21 => ?_)
        · refine g_iconst (pc := 50) X (iI 1) (by rfl) dX9_spells_50 ?_
          exact g_zret (pc := 51) X hA (rfl) (⟨congrArg (fun z => some (Value.int (iI z))) ((bI_t (⟨by omega, fun q hq => ivs q (by omega)⟩)).symm), rfl⟩) (by decide) (by decide) dX9_spells_51
        · refine g_aload_n (pc := 24) X 1 rfl dX9_spells_24 ?_
          refine g_get (pc := 25) X inlX9 0 rfl rfl 0 (by decide) mw_3_12 rfl dX9_spells_25 ?_
          refine g_iload_n (pc := 28) X 3 rfl dX9_spells_28 ?_
          refine g_iload (pc := 29) X 0 rfl dX9_spells_29 ?_
          refine g_iaddI (pc := 31) X dX9_spells_31 ?_
          refine g_ialdI (pc := 32) X 1 rfl (by omega) (by omega) (by omega) dX9_spells_32 ?_
          refine g_nameI (fun y3 ey3 => ?_)
          have by3 : 0 ≤ y3 ∧ y3 ≤ 255 := by rw [ey3]; exact h_Tb _ (by omega)
          refine g_aload_n (pc := 33) X 2 rfl dX9_spells_33 ?_
          refine g_iload (pc := 34) X 0 rfl dX9_spells_34 ?_
          refine g_callVS (pc := 36) (j := sj) X hsj (k_J0_charAt_5068e l Z sj i (by omega) (hsj) (by omega)) iM_J0_charAt_5068e rfl mw_13_14 mw_13_15 mw_13_16 [] [0, 1] rfl (wr := [cO_riirrr t0 9 t_bytes ts tk t_kinds t_places t_values, cA Z t_bytes 0 400 Tb]) rfl (by decide) rfl rfl (Nat.le_of_ble_eq_true rfl) (by decide) dX9_spells_36 (fun r w' hpo => ?_)
          obtain ⟨rfl, rfl, hf36_fc⟩ := hpo
          refine g_as (pc' := 39) (lv' := [(4, .int (iI i)), (0, .ref t0), (1, .ref (Z.2.2.1 sj)), (2, .int (iI fr)), (3, .int (iI to))]) (st' := [.int (iI (gCh sj (i).toNat)), .int (iI y3)]) (ws' := [cO_riirrr t0 9 t_bytes ts tk t_kinds t_places t_values, cA Z t_bytes 0 400 Tb]) rfl rfl rfl rfl ?_
          refine g_icmp_eqI (pc := 39) X 44 (by decide) (inRb by3 (by decide) (by decide)) ⟨by omega, by omega⟩ dX9_spells_39 (fun c39 => ?_) (fun c39 => ?_)
          · refine g_iincI (pc := 44) X 0 rfl (by decide) (lv' := [(4, .int (iI (i + 1))), (0, .ref t0), (1, .ref (Z.2.2.1 sj)), (2, .int (iI fr)), (3, .int (iI to))]) rfl dX9_spells_44 ?_
            refine g_goto (pc := 47) X 15 (by decide) dX9_spells_47 ?_
            exact ih (i + 1) (by omega) (by omega) (by omega) (spl_s ivs (by omega) (by omega) ey3 c39) (by omega)
          · refine g_iconst (pc := 42) X (iI 0) (by rfl) dX9_spells_42 ?_
            exact g_zret (pc := 43) X hA (rfl) (⟨congrArg (fun z => some (Value.int (iI z))) ((bI_f (spl_x (i := i) (by omega) (by omega) (by omega) ey3 c39)).symm), rfl⟩) (by decide) (by decide) dX9_spells_43
    exact loop15 _ 0 (by omega) (by have := (gCh_ok sj hsj).1; omega) (by omega) (fun q hq => absurd hq (by omega)) (Nat.lt_succ_self _)
  · refine g_iconst (pc := 10) X (iI 0) (by rfl) dX9_spells_10 ?_
    exact g_zret (pc := 11) X hA (rfl) (⟨congrArg (fun z => some (Value.int (iI z))) ((bI_f (fun q => absurd q.1 (by omega))).symm), rfl⟩) (by decide) (by decide) dX9_spells_11

set_option maxHeartbeats 4000000 in
set_option maxRecDepth 100000 in
theorem kx_X9_wordKind (l : Launch) (Z : gZ) (t0 : Nat) (t_bytes : Nat) (t_kinds : Nat) (t_places : Nat) (t_values : Nat) (Tb : Nat → Int) (fr : Int) (to : Int) (ts : Int) (tk : Int) (b_fr : 0 ≤ fr ∧ fr ≤ 400) (b_to : 0 ≤ to ∧ to ≤ 400) (b_ts : 0 ≤ ts ∧ ts ≤ 400) (b_tk : 0 ≤ tk ∧ tk ≤ 401) (h_Tb : ∀ j, j < 400 → 0 ≤ Tb j ∧ Tb j ≤ 255) : Con l Z yX9_wordKind cX9_wordKind 3 (some .int) 5 109 0 0 [.ref t0, .int (iI fr), .int (iI to)] [cO_riirrr t0 9 t_bytes ts tk t_kinds t_places t_values, cA Z t_bytes 0 400 Tb] (fun r w' => ∃ (y : Int), (r = some (.int (iI y))) ∧ (w' = [cO_riirrr t0 9 t_bytes ts tk t_kinds t_places t_values, cA Z t_bytes 0 400 Tb]) ∧ (0 ≤ y ∧ y ≤ 5) ∧ (y = wdK Tb fr to)) := by
  refine enter (by decide) (Nat.le_of_ble_eq_true rfl) ?_
  intro p e s m args below meth c A X hnm hA
  have X : Cx p s m args meth c cX9_wordKind 3 (some .int) RX9 Z A := X
  refine g_as (pc' := 0) (lv' := [(0, .ref t0), (1, .int (iI fr)), (2, .int (iI to))]) (st' := []) (ws' := [cO_riirrr t0 9 t_bytes ts tk t_kinds t_places t_values, cA Z t_bytes 0 400 Tb]) rfl rfl rfl rfl ?_
  refine g_aload_n (pc := 0) X 0 rfl dX9_wordKind_0 ?_
  refine g_ldcS (pc := 1) X (tx := "wall") (j := 0) (by decide) dX9_wordKind_1 ?_
  refine g_iload_n (pc := 3) X 1 rfl dX9_wordKind_3 ?_
  refine g_iload_n (pc := 4) X 2 rfl dX9_wordKind_4 ?_
  refine g_callV (pc := 5) X (kx_X9_spells l Z t0 t_bytes t_kinds t_places t_values 0 Tb fr to ts tk b_fr b_to b_ts b_tk (by decide) (h_Tb)) iM_X9_spells mw_12_22 mw_12_23 mw_13_0 0 rfl rfl [0, 1] [] rfl (wr := []) rfl (by decide) rfl rfl (Nat.le_of_ble_eq_true rfl) (by decide) dX9_wordKind_5 (fun r w' hpo => ?_)
  obtain ⟨rfl, rfl⟩ := hpo
  refine g_as (pc' := 8) (lv' := [(0, .ref t0), (1, .int (iI fr)), (2, .int (iI to))]) (st' := [.int (iI (bI (spl Tb fr to 0)))]) (ws' := [cO_riirrr t0 9 t_bytes ts tk t_kinds t_places t_values, cA Z t_bytes 0 400 Tb]) rfl rfl rfl rfl ?_
  refine g_if_eqB (pc := 8) X 13 (by decide) dX9_wordKind_8 (fun c8 => ?_) (fun c8 => ?_)
  · refine g_aload_n (pc := 13) X 0 rfl dX9_wordKind_13 ?_
    refine g_ldcS (pc := 14) X (tx := "door") (j := 1) (by decide) dX9_wordKind_14 ?_
    refine g_iload_n (pc := 16) X 1 rfl dX9_wordKind_16 ?_
    refine g_iload_n (pc := 17) X 2 rfl dX9_wordKind_17 ?_
    refine g_callV (pc := 18) X (kx_X9_spells l Z t0 t_bytes t_kinds t_places t_values 1 Tb fr to ts tk b_fr b_to b_ts b_tk (by decide) (h_Tb)) iM_X9_spells mw_12_22 mw_12_23 mw_13_0 0 rfl rfl [0, 1] [] rfl (wr := []) rfl (by decide) rfl rfl (Nat.le_of_ble_eq_true rfl) (by decide) dX9_wordKind_18 (fun r w' hpo => ?_)
    obtain ⟨rfl, rfl⟩ := hpo
    refine g_as (pc' := 21) (lv' := [(0, .ref t0), (1, .int (iI fr)), (2, .int (iI to))]) (st' := [.int (iI (bI (spl Tb fr to 1)))]) (ws' := [cO_riirrr t0 9 t_bytes ts tk t_kinds t_places t_values, cA Z t_bytes 0 400 Tb]) rfl rfl rfl rfl ?_
    refine g_if_eqB (pc := 21) X 26 (by decide) dX9_wordKind_21 (fun c21 => ?_) (fun c21 => ?_)
    · refine g_aload_n (pc := 26) X 0 rfl dX9_wordKind_26 ?_
      refine g_ldcS (pc := 27) X (tx := "window") (j := 2) (by decide) dX9_wordKind_27 ?_
      refine g_iload_n (pc := 29) X 1 rfl dX9_wordKind_29 ?_
      refine g_iload_n (pc := 30) X 2 rfl dX9_wordKind_30 ?_
      refine g_callV (pc := 31) X (kx_X9_spells l Z t0 t_bytes t_kinds t_places t_values 2 Tb fr to ts tk b_fr b_to b_ts b_tk (by decide) (h_Tb)) iM_X9_spells mw_12_22 mw_12_23 mw_13_0 0 rfl rfl [0, 1] [] rfl (wr := []) rfl (by decide) rfl rfl (Nat.le_of_ble_eq_true rfl) (by decide) dX9_wordKind_31 (fun r w' hpo => ?_)
      obtain ⟨rfl, rfl⟩ := hpo
      refine g_as (pc' := 34) (lv' := [(0, .ref t0), (1, .int (iI fr)), (2, .int (iI to))]) (st' := [.int (iI (bI (spl Tb fr to 2)))]) (ws' := [cO_riirrr t0 9 t_bytes ts tk t_kinds t_places t_values, cA Z t_bytes 0 400 Tb]) rfl rfl rfl rfl ?_
      refine g_if_eqB (pc := 34) X 39 (by decide) dX9_wordKind_34 (fun c34 => ?_) (fun c34 => ?_)
      · refine g_aload_n (pc := 39) X 0 rfl dX9_wordKind_39 ?_
        refine g_ldcS (pc := 40) X (tx := "lean") (j := 3) (by decide) dX9_wordKind_40 ?_
        refine g_iload_n (pc := 42) X 1 rfl dX9_wordKind_42 ?_
        refine g_iload_n (pc := 43) X 2 rfl dX9_wordKind_43 ?_
        refine g_callV (pc := 44) X (kx_X9_spells l Z t0 t_bytes t_kinds t_places t_values 3 Tb fr to ts tk b_fr b_to b_ts b_tk (by decide) (h_Tb)) iM_X9_spells mw_12_22 mw_12_23 mw_13_0 0 rfl rfl [0, 1] [] rfl (wr := []) rfl (by decide) rfl rfl (Nat.le_of_ble_eq_true rfl) (by decide) dX9_wordKind_44 (fun r w' hpo => ?_)
        obtain ⟨rfl, rfl⟩ := hpo
        refine g_as (pc' := 47) (lv' := [(0, .ref t0), (1, .int (iI fr)), (2, .int (iI to))]) (st' := [.int (iI (bI (spl Tb fr to 3)))]) (ws' := [cO_riirrr t0 9 t_bytes ts tk t_kinds t_places t_values, cA Z t_bytes 0 400 Tb]) rfl rfl rfl rfl ?_
        refine g_if_eqB (pc := 47) X 52 (by decide) dX9_wordKind_47 (fun c47 => ?_) (fun c47 => ?_)
        · refine g_aload_n (pc := 52) X 0 rfl dX9_wordKind_52 ?_
          refine g_ldcS (pc := 53) X (tx := "stand") (j := 4) (by decide) dX9_wordKind_53 ?_
          refine g_iload_n (pc := 55) X 1 rfl dX9_wordKind_55 ?_
          refine g_iload_n (pc := 56) X 2 rfl dX9_wordKind_56 ?_
          refine g_callV (pc := 57) X (kx_X9_spells l Z t0 t_bytes t_kinds t_places t_values 4 Tb fr to ts tk b_fr b_to b_ts b_tk (by decide) (h_Tb)) iM_X9_spells mw_12_22 mw_12_23 mw_13_0 0 rfl rfl [0, 1] [] rfl (wr := []) rfl (by decide) rfl rfl (Nat.le_of_ble_eq_true rfl) (by decide) dX9_wordKind_57 (fun r w' hpo => ?_)
          obtain ⟨rfl, rfl⟩ := hpo
          refine g_as (pc' := 60) (lv' := [(0, .ref t0), (1, .int (iI fr)), (2, .int (iI to))]) (st' := [.int (iI (bI (spl Tb fr to 4)))]) (ws' := [cO_riirrr t0 9 t_bytes ts tk t_kinds t_places t_values, cA Z t_bytes 0 400 Tb]) rfl rfl rfl rfl ?_
          refine g_if_eqB (pc := 60) X 67 (by decide) dX9_wordKind_60 (fun c60 => ?_) (fun c60 => ?_)
          · refine g_iconst (pc := 67) X (iI 5) (by rfl) dX9_wordKind_67 ?_
            exact g_iret (pc := 68) X hA (⟨5, rfl, rfl, (by (first | (clear b_fr b_to b_ts b_tk; omega) | omega)), (wdK_5 c8 c21 c34 c47 c60)⟩) (by decide) (by decide) dX9_wordKind_68
          · refine g_iconst (pc := 63) X (iI 4) (by rfl) dX9_wordKind_63 ?_
            refine g_goto (pc := 64) X 68 (by decide) dX9_wordKind_64 ?_
            exact g_iret (pc := 68) X hA (⟨4, rfl, rfl, (by (first | (clear b_fr b_to b_ts b_tk; omega) | omega)), (wdK_of (Or.inr (Or.inr (Or.inr (Or.inr (⟨rfl, c60⟩))))))⟩) (by decide) (by decide) dX9_wordKind_68
        · refine g_iconst (pc := 50) X (iI 3) (by rfl) dX9_wordKind_50 ?_
          exact g_iret (pc := 51) X hA (⟨3, rfl, rfl, (by (first | (clear b_fr b_to b_ts b_tk; omega) | omega)), (wdK_of (Or.inr (Or.inr (Or.inr (Or.inl (⟨rfl, c47⟩))))))⟩) (by decide) (by decide) dX9_wordKind_51
      · refine g_iconst (pc := 37) X (iI 2) (by rfl) dX9_wordKind_37 ?_
        exact g_iret (pc := 38) X hA (⟨2, rfl, rfl, (by (first | (clear b_fr b_to b_ts b_tk; omega) | omega)), (wdK_of (Or.inr (Or.inr (Or.inl (⟨rfl, c34⟩)))))⟩) (by decide) (by decide) dX9_wordKind_38
    · refine g_iconst (pc := 24) X (iI 1) (by rfl) dX9_wordKind_24 ?_
      exact g_iret (pc := 25) X hA (⟨1, rfl, rfl, (by (first | (clear b_fr b_to b_ts b_tk; omega) | omega)), (wdK_of (Or.inr (Or.inl (⟨rfl, c21⟩))))⟩) (by decide) (by decide) dX9_wordKind_25
  · refine g_iconst (pc := 11) X (iI 0) (by rfl) dX9_wordKind_11 ?_
    exact g_iret (pc := 12) X hA (⟨0, rfl, rfl, (by (first | (clear b_fr b_to b_ts b_tk; omega) | omega)), (wdK_of (Or.inl (⟨rfl, c8⟩)))⟩) (by decide) (by decide) dX9_wordKind_12

set_option maxHeartbeats 4000000 in
set_option maxRecDepth 100000 in
theorem kx_X9_addToken (l : Launch) (Z : gZ) (t0 : Nat) (t_bytes : Nat) (t_kinds : Nat) (t_places : Nat) (t_values : Nat) (Tk : Nat → Int) (Tp : Nat → Int) (Tv : Nat → Int) (kd : Int) (pc_ : Int) (va : Int) (ts : Int) (tk : Int) (b_kd : 0 ≤ kd ∧ kd ≤ 10) (b_pc_ : 0 ≤ pc_ ∧ pc_ ≤ 400) (b_va : 0 ≤ va ∧ va ≤ 100000) (b_ts : 0 ≤ ts ∧ ts ≤ 400) (b_tk : 0 ≤ tk ∧ tk ≤ 401) (hk : tk ≤ 400) (h_Tk : ∀ j, j < 401 → 0 ≤ Tk j ∧ Tk j ≤ 10) (h_Tp : ∀ j, j < 401 → 0 ≤ Tp j ∧ Tp j ≤ 400) (h_Tv : ∀ j, j < 401 → 0 ≤ Tv j ∧ Tv j ≤ 100000) : Con l Z yX9_addToken cX9_addToken 4 none 0 0 0 0 [.ref t0, .int (iI kd), .int (iI pc_), .int (iI va)] [cO_riirrr t0 9 t_bytes ts tk t_kinds t_places t_values, cA Z t_kinds 0 401 Tk, cA Z t_places 0 401 Tp, cA Z t_values 0 401 Tv] (fun r w' => ∃ (Tk2 : Nat → Int) (Tp2 : Nat → Int) (Tv2 : Nat → Int) (tk2 : Int), (r = none) ∧ (w' = [cO_riirrr t0 9 t_bytes ts tk2 t_kinds t_places t_values, cA Z t_kinds 0 401 Tk2, cA Z t_places 0 401 Tp2, cA Z t_values 0 401 Tv2]) ∧ (0 ≤ tk2 ∧ tk2 ≤ 401) ∧ (∀ j, j < 401 → 0 ≤ Tk2 j ∧ Tk2 j ≤ 10) ∧ (∀ j, j < 401 → 0 ≤ Tp2 j ∧ Tp2 j ≤ 400) ∧ (∀ j, j < 401 → 0 ≤ Tv2 j ∧ Tv2 j ≤ 100000) ∧ (tk2 = tk + 1) ∧ (Tk2 = updI Tk tk.toNat kd) ∧ (Tp2 = updI Tp tk.toNat pc_) ∧ (Tv2 = updI Tv tk.toNat va)) := by
  refine enter (by decide) (Nat.le_of_ble_eq_true rfl) ?_
  intro p e s m args below meth c A X hnm hA
  have X : Cx p s m args meth c cX9_addToken 4 none RX9 Z A := X
  refine g_as (pc' := 0) (lv' := [(0, .ref t0), (1, .int (iI kd)), (2, .int (iI pc_)), (3, .int (iI va))]) (st' := []) (ws' := [cO_riirrr t0 9 t_bytes ts tk t_kinds t_places t_values, cA Z t_kinds 0 401 Tk, cA Z t_places 0 401 Tp, cA Z t_values 0 401 Tv]) rfl rfl rfl rfl ?_
  refine g_aload_n (pc := 0) X 0 rfl dX9_addToken_0 ?_
  refine g_get (pc := 1) X inlX9 0 rfl rfl 2 (by decide) mw_12_9 rfl dX9_addToken_1 ?_
  refine g_sipush (pc := 4) X (iI 400) (by decide) dX9_addToken_4 ?_
  refine g_icmp_leI (pc := 7) X 11 (by decide) (inRb b_tk (by decide) (by decide)) ⟨by decide, by decide⟩ dX9_addToken_7 (fun c7 => ?_) (fun h => absurd h (by omega))
  refine g_aload_n (pc := 11) X 0 rfl dX9_addToken_11 ?_
  refine g_get (pc := 12) X inlX9 0 rfl rfl 3 (by decide) mw_3_13 rfl dX9_addToken_12 ?_
  refine g_aload_n (pc := 15) X 0 rfl dX9_addToken_15 ?_
  refine g_get (pc := 16) X inlX9 0 rfl rfl 2 (by decide) mw_12_9 rfl dX9_addToken_16 ?_
  refine g_iload_n (pc := 19) X 1 rfl dX9_addToken_19 ?_
  refine g_iastG (pc := 20) X 1 rfl (b_tk.1) (by omega) (Int.le_trans b_tk.2 (by decide)) (ws' := fun F1 => [cO_riirrr t0 9 t_bytes ts tk t_kinds t_places t_values, cA Z t_kinds 0 401 F1, cA Z t_places 0 401 Tp, cA Z t_values 0 401 Tv]) (fun _ => rfl) dX9_addToken_20 (fun F1 eF1 => ?_)
  have hF1 : ∀ j, j < 401 → 0 ≤ F1 j ∧ F1 j ≤ 10 := by rw [eF1]; exact updI_B h_Tk (by omega)
  refine g_aload_n (pc := 21) X 0 rfl dX9_addToken_21 ?_
  refine g_get (pc := 22) X inlX9 0 rfl rfl 4 (by decide) mw_3_14 rfl dX9_addToken_22 ?_
  refine g_aload_n (pc := 25) X 0 rfl dX9_addToken_25 ?_
  refine g_get (pc := 26) X inlX9 0 rfl rfl 2 (by decide) mw_12_9 rfl dX9_addToken_26 ?_
  refine g_iload_n (pc := 29) X 2 rfl dX9_addToken_29 ?_
  refine g_iastG (pc := 30) X 2 rfl (b_tk.1) (by omega) (Int.le_trans b_tk.2 (by decide)) (ws' := fun F2 => [cO_riirrr t0 9 t_bytes ts tk t_kinds t_places t_values, cA Z t_kinds 0 401 F1, cA Z t_places 0 401 F2, cA Z t_values 0 401 Tv]) (fun _ => rfl) dX9_addToken_30 (fun F2 eF2 => ?_)
  have hF2 : ∀ j, j < 401 → 0 ≤ F2 j ∧ F2 j ≤ 400 := by rw [eF2]; exact updI_B h_Tp (by omega)
  refine g_aload_n (pc := 31) X 0 rfl dX9_addToken_31 ?_
  refine g_get (pc := 32) X inlX9 0 rfl rfl 5 (by decide) mw_3_15 rfl dX9_addToken_32 ?_
  refine g_aload_n (pc := 35) X 0 rfl dX9_addToken_35 ?_
  refine g_get (pc := 36) X inlX9 0 rfl rfl 2 (by decide) mw_12_9 rfl dX9_addToken_36 ?_
  refine g_iload_n (pc := 39) X 3 rfl dX9_addToken_39 ?_
  refine g_iastG (pc := 40) X 3 rfl (b_tk.1) (by omega) (Int.le_trans b_tk.2 (by decide)) (ws' := fun F3 => [cO_riirrr t0 9 t_bytes ts tk t_kinds t_places t_values, cA Z t_kinds 0 401 F1, cA Z t_places 0 401 F2, cA Z t_values 0 401 F3]) (fun _ => rfl) dX9_addToken_40 (fun F3 eF3 => ?_)
  have hF3 : ∀ j, j < 401 → 0 ≤ F3 j ∧ F3 j ≤ 100000 := by rw [eF3]; exact updI_B h_Tv (by omega)
  refine g_aload_n (pc := 41) X 0 rfl dX9_addToken_41 ?_
  refine g_dup (pc := 42) X rfl dX9_addToken_42 ?_
  refine g_get (pc := 43) X inlX9 0 rfl rfl 2 (by decide) mw_12_9 rfl dX9_addToken_43 ?_
  refine g_iconst (pc := 46) X (iI 1) (by rfl) dX9_addToken_46 ?_
  refine g_iaddI (pc := 47) X dX9_addToken_47 ?_
  refine g_put (pc := 48) X inlX9 tyX9_ok nmX9 0 rfl rfl 2 (by decide) mw_12_9 rfl rfl rfl (Nat.le_of_ble_eq_true rfl) (ws' := [cO_riirrr t0 9 t_bytes ts (tk + 1) t_kinds t_places t_values, cA Z t_kinds 0 401 F1, cA Z t_places 0 401 F2, cA Z t_values 0 401 F3]) rfl dX9_addToken_48 ?_
  exact g_vret (pc := 51) X hA (⟨F1, F2, F3, (tk + 1), rfl, rfl, (by omega), (hF1), (hF2), (hF3), (by omega), (eF1), (eF2), (eF3)⟩) (by decide) (by decide) dX9_addToken_51

set_option maxHeartbeats 4000000 in
set_option maxRecDepth 100000 in
theorem kx_X9_split (l : Launch) (Z : gZ) (t0 : Nat) (t_bytes : Nat) (t_kinds : Nat) (t_places : Nat) (t_values : Nat) (aK : Nat → Int) (aV : Nat → Int) (aP : Nat → Int) (Tb : Nat → Int) (Tk : Nat → Int) (Tp : Nat → Int) (Tv : Nat → Int) (ts : Int) (tk : Int) (b_ts : 0 ≤ ts ∧ ts ≤ 400) (b_tk : 0 ≤ tk ∧ tk ≤ 401) (hT : aK = tK Tb ts ∧ aV = tV Tb ts ∧ aP = tA Tb ts) (h_Tb : ∀ j, j < 400 → 0 ≤ Tb j ∧ Tb j ≤ 255) (h_Tk : ∀ j, j < 401 → 0 ≤ Tk j ∧ Tk j ≤ 10) (h_Tp : ∀ j, j < 401 → 0 ≤ Tp j ∧ Tp j ≤ 400) (h_Tv : ∀ j, j < 401 → 0 ≤ Tv j ∧ Tv j ≤ 100000) : Con l Z yX9_split cX9_split 3 none 6 131 0 0 [.ref t0] [cO_riirrr t0 9 t_bytes ts tk t_kinds t_places t_values, cA Z t_bytes 0 400 Tb, cA Z t_kinds 0 401 Tk, cA Z t_places 0 401 Tp, cA Z t_values 0 401 Tv] (fun r w' => ∃ (Tk2 : Nat → Int) (Tp2 : Nat → Int) (Tv2 : Nat → Int) (tk2 : Int), (r = none) ∧ (w' = [cO_riirrr t0 9 t_bytes ts tk2 t_kinds t_places t_values, cA Z t_bytes 0 400 Tb, cA Z t_kinds 0 401 Tk2, cA Z t_places 0 401 Tp2, cA Z t_values 0 401 Tv2]) ∧ (1 ≤ tk2 ∧ tk2 ≤ 401) ∧ (∀ j, j < 401 → 0 ≤ Tk2 j ∧ Tk2 j ≤ 10) ∧ (∀ j, j < 401 → 0 ≤ Tp2 j ∧ Tp2 j ≤ 400) ∧ (∀ j, j < 401 → 0 ≤ Tv2 j ∧ Tv2 j ≤ 100000) ∧ (∀ j : Nat, (j : Int) < tk2 → Tk2 j = aK j) ∧ (∀ j : Nat, (j : Int) < tk2 → Tp2 j = aP j) ∧ (∀ j : Nat, (j : Int) < tk2 → Tv2 j = aV j) ∧ (∀ j : Nat, (j : Int) < tk2 → aK j ≠ 10 → (j : Int) + 1 < tk2)) := by
  refine enter (by decide) (Nat.le_of_ble_eq_true rfl) ?_
  intro p e s m args below meth c A X hnm hA
  have X : Cx p s m args meth c cX9_split 3 none RX9 Z A := X
  refine g_as (pc' := 0) (lv' := [(0, .ref t0)]) (st' := []) (ws' := [cO_riirrr t0 9 t_bytes ts tk t_kinds t_places t_values, cA Z t_bytes 0 400 Tb, cA Z t_kinds 0 401 Tk, cA Z t_places 0 401 Tp, cA Z t_values 0 401 Tv]) rfl rfl rfl rfl ?_
  refine g_aload_n (pc := 0) X 0 rfl dX9_split_0 ?_
  refine g_iconst (pc := 1) X (iI 0) (by rfl) dX9_split_1 ?_
  refine g_put (pc := 2) X inlX9 tyX9_ok nmX9 0 rfl rfl 2 (by decide) mw_12_9 rfl rfl rfl (Nat.le_of_ble_eq_true rfl) (ws' := [cO_riirrr t0 9 t_bytes ts 0 t_kinds t_places t_values, cA Z t_bytes 0 400 Tb, cA Z t_kinds 0 401 Tk, cA Z t_places 0 401 Tp, cA Z t_values 0 401 Tv]) rfl dX9_split_2 ?_
  refine g_iconst (pc := 5) X (iI 0) (by rfl) dX9_split_5 ?_
  refine g_istore_n (pc := 6) X (i := 1) rfl (by decide) (lv' := [(1, .int (iI 0)), (0, .ref t0)]) rfl dX9_split_6 ?_
  have loop7 : ∀ (fuel : Nat) (pl : Int) (tq : Int) (Kk : Nat → Int) (Kp : Nat → Int) (Kv : Nat → Int), (0 ≤ pl ∧ pl ≤ 400) → (0 ≤ tq ∧ tq ≤ 400) → (∀ j, j < 401 → 0 ≤ Kk j ∧ Kk j ≤ 10) → (∀ j, j < 401 → 0 ≤ Kp j ∧ Kp j ≤ 400) → (∀ j, j < 401 → 0 ≤ Kv j ∧ Kv j ≤ 100000) → (tq ≤ pl) → (pl ≤ ts) → (∀ j : Nat, (j : Int) < tq → Kk j = aK j ∧ Kp j = aP j ∧ Kv j = aV j ∧ aP j < ts) → (skp Tb ts 401 pl = aP tq.toNat) → (401 - pl).toNat < fuel → Gs p l e ({ frames := 6, cells := 0, slots := 0, locals := 131 } : Room) s m args below meth c (MQ below (gPost Z [cO_riirrr t0 9 t_bytes ts tk t_kinds t_places t_values, cA Z t_bytes 0 400 Tb, cA Z t_kinds 0 401 Tk, cA Z t_places 0 401 Tp, cA Z t_values 0 401 Tv] s.heap.size (fun r w' => ∃ (Tk2 : Nat → Int) (Tp2 : Nat → Int) (Tv2 : Nat → Int) (tk2 : Int), (r = none) ∧ (w' = [cO_riirrr t0 9 t_bytes ts tk2 t_kinds t_places t_values, cA Z t_bytes 0 400 Tb, cA Z t_kinds 0 401 Tk2, cA Z t_places 0 401 Tp2, cA Z t_values 0 401 Tv2]) ∧ (1 ≤ tk2 ∧ tk2 ≤ 401) ∧ (∀ j, j < 401 → 0 ≤ Tk2 j ∧ Tk2 j ≤ 10) ∧ (∀ j, j < 401 → 0 ≤ Tp2 j ∧ Tp2 j ≤ 400) ∧ (∀ j, j < 401 → 0 ≤ Tv2 j ∧ Tv2 j ≤ 100000) ∧ (∀ j : Nat, (j : Int) < tk2 → Tk2 j = aK j) ∧ (∀ j : Nat, (j : Int) < tk2 → Tp2 j = aP j) ∧ (∀ j : Nat, (j : Int) < tk2 → Tv2 j = aV j) ∧ (∀ j : Nat, (j : Int) < tk2 → aK j ≠ 10 → (j : Int) + 1 < tk2))) args s 0 0 (va_A [cO_riirrr t0 9 t_bytes ts tk t_kinds t_places t_values, cA Z t_bytes 0 400 Tb, cA Z t_kinds 0 401 Tk, cA Z t_places 0 401 Tp, cA Z t_values 0 401 Tv] s.heap.size)) Z A 3 0 0 7 [(1, .int (iI pl)), (0, .ref t0)] [] [cO_riirrr t0 9 t_bytes ts tq t_kinds t_places t_values, cA Z t_bytes 0 400 Tb, cA Z t_kinds 0 401 Kk, cA Z t_places 0 401 Kp, cA Z t_values 0 401 Kv] := by
    intro fuel
    induction fuel with
    | zero => intro pl tq Kk Kp Kv _ _ _ _ _ _ _ _ _ hm; exact absurd hm (Nat.not_lt_zero _)
    | succ fuel ih =>
      intro pl tq Kk Kp Kv b_pl b_tq h_Kk h_Kp h_Kv iv ivn ivA ivS hm
      refine g_iload_n (pc := 7) X 0 rfl dX9_split_7 ?_
      refine g_aload_n (pc := 8) X 1 rfl dX9_split_8 ?_
      refine g_get (pc := 9) X inlX9 0 rfl rfl 1 (by decide) mw_10_8 rfl dX9_split_9 ?_
      refine g_icmp_geI (pc := 12) X 150 (by decide) (inRb b_pl (by decide) (by decide)) (inRb b_ts (by decide) (by decide)) dX9_split_12 (fun c12 => ?_) (fun c12 => ?_)
      · refine g_aload_n (pc := 150) X 1 rfl dX9_split_150 ?_
        refine g_bipush (pc := 151) X (iI 10) (by decide) dX9_split_151 ?_
        refine g_aload_n (pc := 153) X 1 rfl dX9_split_153 ?_
        refine g_get (pc := 154) X inlX9 0 rfl rfl 1 (by decide) mw_10_8 rfl dX9_split_154 ?_
        refine g_iconst (pc := 157) X (iI 0) (by rfl) dX9_split_157 ?_
        refine g_callV (pc := 158) X (kx_X9_addToken l Z t0 t_bytes t_kinds t_places t_values Kk Kp Kv 10 ts 0 ts tq (by decide) b_ts (by decide) b_ts (by omega) (by omega) (h_Kk) (h_Kp) (h_Kv)) iM_X9_addToken mw_15_3 mw_15_4 mw_15_5 0 rfl rfl [0, 2, 3, 4] [1] rfl (wr := [cA Z t_bytes 0 400 Tb]) rfl (by decide) rfl rfl (Nat.le_of_ble_eq_true rfl) (by decide) dX9_split_158 (fun r w' hpo => ?_)
        refine exN_4 hpo fun F1 F2 F3 y4 hz => anD_10 hz fun e_r e_w hf158_b_tk2 hf158_h_Tk2 hf158_h_Tp2 hf158_h_Tv2 hf158_f1 hf158_e1 hf158_e2 hf158_e3 => ?_; clear hz hpo; subst e_r; subst e_w
        refine g_as (pc' := 161) (lv' := [(1, .int (iI pl)), (0, .ref t0)]) (st' := []) (ws' := [cA Z t_bytes 0 400 Tb, cO_riirrr t0 9 t_bytes ts y4 t_kinds t_places t_values, cA Z t_kinds 0 401 F1, cA Z t_places 0 401 F2, cA Z t_values 0 401 F3]) rfl rfl rfl rfl ?_
        refine g_ws (ws' := [cO_riirrr t0 9 t_bytes ts y4 t_kinds t_places t_values, cA Z t_bytes 0 400 Tb, cA Z t_kinds 0 401 F1, cA Z t_places 0 401 F2, cA Z t_values 0 401 F3]) [1, 0, 2, 3, 4] (by decide) rfl ?_
        exact g_vret (pc := 161) X hA (⟨F1, F2, F3, y4, rfl, rfl, (by omega), (hf158_h_Tk2), (hf158_h_Tp2), (hf158_h_Tv2), (fun j hj => (tok_end hT (by omega) ivA ivS (by omega) hf158_e1 hf158_e2 hf158_e3 j (by omega)).1.1), (fun j hj => (tok_end hT (by omega) ivA ivS (by omega) hf158_e1 hf158_e2 hf158_e3 j (by omega)).1.2.1), (fun j hj => (tok_end hT (by omega) ivA ivS (by omega) hf158_e1 hf158_e2 hf158_e3 j (by omega)).1.2.2), (fun j hj hk => by have q := (tok_end hT (by omega) ivA ivS (by omega) hf158_e1 hf158_e2 hf158_e3 j (by omega)).2 hk; omega)⟩) (by decide) (by decide) dX9_split_161
      · refine g_iload_n (pc := 15) X 0 rfl dX9_split_15 ?_
        refine g_iconst (pc := 16) X (iI 1) (by rfl) dX9_split_16 ?_
        refine g_iaddI (pc := 17) X dX9_split_17 ?_
        refine g_istore_n (pc := 18) X (i := 2) rfl (by decide) (lv' := [(2, .int (iI (pl + 1))), (1, .int (iI pl)), (0, .ref t0)]) rfl dX9_split_18 ?_
        refine g_bipush (pc := 19) X (iI 97) (by decide) dX9_split_19 ?_
        refine g_aload_n (pc := 21) X 2 rfl dX9_split_21 ?_
        refine g_get (pc := 22) X inlX9 0 rfl rfl 0 (by decide) mw_3_12 rfl dX9_split_22 ?_
        refine g_iload_n (pc := 25) X 1 rfl dX9_split_25 ?_
        refine g_ialdI (pc := 26) X 1 rfl (b_pl.1) (by omega) (Int.le_trans b_pl.2 (by decide)) dX9_split_26 ?_
        refine g_nameI (fun y6 ey6 => ?_)
        have by6 : 0 ≤ y6 ∧ y6 ≤ 255 := by rw [ey6]; exact h_Tb _ (by omega)
        refine g_bipush (pc := 27) X (iI 122) (by decide) dX9_split_27 ?_
        refine g_callSN (pc := 29) X (k_X11_isFrom l Z 97 y6 122 (by decide) (by omega) (by decide)) iM_X11_isFrom (by decide) mw_11_7 [] [0, 1, 2, 3, 4] rfl (wr := [cO_riirrr t0 9 t_bytes ts tq t_kinds t_places t_values, cA Z t_bytes 0 400 Tb, cA Z t_kinds 0 401 Kk, cA Z t_places 0 401 Kp, cA Z t_values 0 401 Kv]) rfl (by decide) rfl rfl (Nat.le_of_ble_eq_true rfl) (by decide) dX9_split_29 (fun r w' hpo => ?_)
        obtain ⟨rfl, rfl⟩ := hpo
        refine g_as (pc' := 32) (lv' := [(2, .int (iI (pl + 1))), (1, .int (iI pl)), (0, .ref t0)]) (st' := [.int (iI (bI (97 ≤ y6 ∧ y6 ≤ 122)))]) (ws' := [cO_riirrr t0 9 t_bytes ts tq t_kinds t_places t_values, cA Z t_bytes 0 400 Tb, cA Z t_kinds 0 401 Kk, cA Z t_places 0 401 Kp, cA Z t_values 0 401 Kv]) rfl rfl rfl rfl ?_
        refine g_if_eqB (pc := 32) X 60 (by decide) dX9_split_32 (fun c32 => ?_) (fun c32 => ?_)
        · refine g_bipush (pc := 60) X (iI 48) (by decide) dX9_split_60 ?_
          refine g_aload_n (pc := 62) X 2 rfl dX9_split_62 ?_
          refine g_get (pc := 63) X inlX9 0 rfl rfl 0 (by decide) mw_3_12 rfl dX9_split_63 ?_
          refine g_iload_n (pc := 66) X 1 rfl dX9_split_66 ?_
          refine g_ialdI (pc := 67) X 1 rfl (b_pl.1) (by omega) (Int.le_trans b_pl.2 (by decide)) dX9_split_67 ?_
          refine g_nameI (fun y8 ey8 => ?_)
          have by8 : 0 ≤ y8 ∧ y8 ≤ 255 := by rw [ey8]; exact h_Tb _ (by omega)
          refine g_bipush (pc := 68) X (iI 57) (by decide) dX9_split_68 ?_
          refine g_callSN (pc := 70) X (k_X11_isFrom l Z 48 y8 57 (by decide) (by omega) (by decide)) iM_X11_isFrom (by decide) mw_11_7 [] [0, 1, 2, 3, 4] rfl (wr := [cO_riirrr t0 9 t_bytes ts tq t_kinds t_places t_values, cA Z t_bytes 0 400 Tb, cA Z t_kinds 0 401 Kk, cA Z t_places 0 401 Kp, cA Z t_values 0 401 Kv]) rfl (by decide) rfl rfl (Nat.le_of_ble_eq_true rfl) (by decide) dX9_split_70 (fun r w' hpo => ?_)
          obtain ⟨rfl, rfl⟩ := hpo
          refine g_as (pc' := 73) (lv' := [(2, .int (iI (pl + 1))), (1, .int (iI pl)), (0, .ref t0)]) (st' := [.int (iI (bI (48 ≤ y8 ∧ y8 ≤ 57)))]) (ws' := [cO_riirrr t0 9 t_bytes ts tq t_kinds t_places t_values, cA Z t_bytes 0 400 Tb, cA Z t_kinds 0 401 Kk, cA Z t_places 0 401 Kp, cA Z t_values 0 401 Kv]) rfl rfl rfl rfl ?_
          refine g_if_eqB (pc := 73) X 102 (by decide) dX9_split_73 (fun c73 => ?_) (fun c73 => ?_)
          · refine g_aload_n (pc := 102) X 2 rfl dX9_split_102 ?_
            refine g_get (pc := 103) X inlX9 0 rfl rfl 0 (by decide) mw_3_12 rfl dX9_split_103 ?_
            refine g_iload_n (pc := 106) X 1 rfl dX9_split_106 ?_
            refine g_ialdI (pc := 107) X 1 rfl (b_pl.1) (by omega) (Int.le_trans b_pl.2 (by decide)) dX9_split_107 ?_
            refine g_nameI (fun y10 ey10 => ?_)
            have by10 : 0 ≤ y10 ∧ y10 ≤ 255 := by rw [ey10]; exact h_Tb _ (by omega)
            refine g_bipush (pc := 108) X (iI 32) (by decide) dX9_split_108 ?_
            refine g_icmp_eqI (pc := 110) X 139 (by decide) (inRb by10 (by decide) (by decide)) ⟨by decide, by decide⟩ dX9_split_110 (fun c110 => ?_) (fun c110 => ?_)
            · refine g_iload_n (pc := 139) X 1 rfl dX9_split_139 ?_
              refine g_iconst (pc := 140) X (iI 1) (by rfl) dX9_split_140 ?_
              refine g_iaddI (pc := 141) X dX9_split_141 ?_
              refine g_iload_n (pc := 142) X 0 rfl dX9_split_142 ?_
              refine g_maxI (pc := 143) X mw_12_10 mw_12_11 mw_25_23 mw_12_13 (by decide) (Nat.le_of_ble_eq_true rfl) (by decide) (by decide) ⟨by omega, by omega⟩ ⟨by omega, by omega⟩ dX9_split_143 ?_
              refine g_nameI (fun y11 ey11 => ?_)
              have my11 : pl + 1 ≤ y11 ∧ pl + 1 ≤ y11 ∧ (y11 = pl + 1 ∨ y11 = pl + 1) := by rw [ey11]; exact maxF _ _
              clear ey11
              refine g_istore_n (pc := 146) X (i := 1) rfl (by decide) (lv' := [(1, .int (iI y11)), (2, .int (iI (pl + 1))), (0, .ref t0)]) rfl dX9_split_146 ?_
              refine g_goto (pc := 147) X 7 (by decide) dX9_split_147 ?_
              refine g_lv (lv' := [(1, .int (iI y11)), (0, .ref t0)]) [0, 2] rfl ?_
              exact ih y11 tq Kk Kp Kv (by omega) (b_tq) (h_Kk) (h_Kp) (h_Kv) (by omega) (by omega) (ivA) (by rw [show y11 = pl + 1 by omega]; exact (skp_blank (by omega) (by omega) (by omega) (by omega)).symm.trans ivS) (by omega)
            · refine g_aload_n (pc := 113) X 2 rfl dX9_split_113 ?_
              refine g_get (pc := 114) X inlX9 0 rfl rfl 0 (by decide) mw_3_12 rfl dX9_split_114 ?_
              refine g_iload_n (pc := 117) X 1 rfl dX9_split_117 ?_
              refine g_ialdI (pc := 118) X 1 rfl (b_pl.1) (by omega) (Int.le_trans b_pl.2 (by decide)) dX9_split_118 ?_
              refine g_nameI (fun y12 ey12 => ?_)
              have by12 : 0 ≤ y12 ∧ y12 ≤ 255 := by rw [ey12]; exact h_Tb _ (by omega)
              refine g_bipush (pc := 119) X (iI 10) (by decide) dX9_split_119 ?_
              refine g_icmp_eqI (pc := 121) X 139 (by decide) (inRb by12 (by decide) (by decide)) ⟨by decide, by decide⟩ dX9_split_121 (fun c121 => ?_) (fun c121 => ?_)
              · refine g_iload_n (pc := 139) X 1 rfl dX9_split_139 ?_
                refine g_iconst (pc := 140) X (iI 1) (by rfl) dX9_split_140 ?_
                refine g_iaddI (pc := 141) X dX9_split_141 ?_
                refine g_iload_n (pc := 142) X 0 rfl dX9_split_142 ?_
                refine g_maxI (pc := 143) X mw_12_10 mw_12_11 mw_25_23 mw_12_13 (by decide) (Nat.le_of_ble_eq_true rfl) (by decide) (by decide) ⟨by omega, by omega⟩ ⟨by omega, by omega⟩ dX9_split_143 ?_
                refine g_nameI (fun y13 ey13 => ?_)
                have my13 : pl + 1 ≤ y13 ∧ pl + 1 ≤ y13 ∧ (y13 = pl + 1 ∨ y13 = pl + 1) := by rw [ey13]; exact maxF _ _
                clear ey13
                refine g_istore_n (pc := 146) X (i := 1) rfl (by decide) (lv' := [(1, .int (iI y13)), (2, .int (iI (pl + 1))), (0, .ref t0)]) rfl dX9_split_146 ?_
                refine g_goto (pc := 147) X 7 (by decide) dX9_split_147 ?_
                refine g_lv (lv' := [(1, .int (iI y13)), (0, .ref t0)]) [0, 2] rfl ?_
                exact ih y13 tq Kk Kp Kv (by omega) (b_tq) (h_Kk) (h_Kp) (h_Kv) (by omega) (by omega) (ivA) (by rw [show y13 = pl + 1 by omega]; exact (skp_blank (by omega) (by omega) (by omega) (by omega)).symm.trans ivS) (by omega)
              · refine g_aload_n (pc := 124) X 2 rfl dX9_split_124 ?_
                refine g_aload_n (pc := 125) X 2 rfl dX9_split_125 ?_
                refine g_get (pc := 126) X inlX9 0 rfl rfl 0 (by decide) mw_3_12 rfl dX9_split_126 ?_
                refine g_iload_n (pc := 129) X 1 rfl dX9_split_129 ?_
                refine g_ialdI (pc := 130) X 1 rfl (b_pl.1) (by omega) (Int.le_trans b_pl.2 (by decide)) dX9_split_130 ?_
                refine g_nameI (fun y14 ey14 => ?_)
                have by14 : 0 ≤ y14 ∧ y14 ≤ 255 := by rw [ey14]; exact h_Tb _ (by omega)
                refine g_callS (pc := 131) X (kx_X9_signKind l Z y14 (by omega)) iM_X9_signKind mw_15_15 mw_15_16 [] [0, 1, 2, 3, 4] rfl (wr := [cO_riirrr t0 9 t_bytes ts tq t_kinds t_places t_values, cA Z t_bytes 0 400 Tb, cA Z t_kinds 0 401 Kk, cA Z t_places 0 401 Kp, cA Z t_values 0 401 Kv]) rfl (by decide) rfl rfl (Nat.le_of_ble_eq_true rfl) (by decide) dX9_split_131 (fun r w' hpo => ?_)
                refine exN_1 hpo fun y15 hz => anD_4 hz fun e_r e_w hf131_b_y hf131_f1 => ?_; clear hz hpo; subst e_r; subst e_w
                refine g_as (pc' := 134) (lv' := [(2, .int (iI (pl + 1))), (1, .int (iI pl)), (0, .ref t0)]) (st' := [.int (iI y15), .ref t0]) (ws' := [cO_riirrr t0 9 t_bytes ts tq t_kinds t_places t_values, cA Z t_bytes 0 400 Tb, cA Z t_kinds 0 401 Kk, cA Z t_places 0 401 Kp, cA Z t_values 0 401 Kv]) rfl rfl rfl rfl ?_
                refine g_iload_n (pc := 134) X 1 rfl dX9_split_134 ?_
                refine g_iconst (pc := 135) X (iI 0) (by rfl) dX9_split_135 ?_
                refine g_callV (pc := 136) X (kx_X9_addToken l Z t0 t_bytes t_kinds t_places t_values Kk Kp Kv y15 pl 0 ts tq (by omega) b_pl (by decide) b_ts (by omega) (by omega) (h_Kk) (h_Kp) (h_Kv)) iM_X9_addToken mw_15_3 mw_15_4 mw_15_5 0 rfl rfl [0, 2, 3, 4] [1] rfl (wr := [cA Z t_bytes 0 400 Tb]) rfl (by decide) rfl rfl (Nat.le_of_ble_eq_true rfl) (by decide) dX9_split_136 (fun r w' hpo => ?_)
                refine exN_4 hpo fun F17 F18 F19 y20 hz => anD_10 hz fun e_r e_w hf136_b_tk2 hf136_h_Tk2 hf136_h_Tp2 hf136_h_Tv2 hf136_f1 hf136_e1 hf136_e2 hf136_e3 => ?_; clear hz hpo; subst e_r; subst e_w
                refine g_as (pc' := 139) (lv' := [(2, .int (iI (pl + 1))), (1, .int (iI pl)), (0, .ref t0)]) (st' := []) (ws' := [cA Z t_bytes 0 400 Tb, cO_riirrr t0 9 t_bytes ts y20 t_kinds t_places t_values, cA Z t_kinds 0 401 F17, cA Z t_places 0 401 F18, cA Z t_values 0 401 F19]) rfl rfl rfl rfl ?_
                refine g_iload_n (pc := 139) X 1 rfl dX9_split_139 ?_
                refine g_iconst (pc := 140) X (iI 1) (by rfl) dX9_split_140 ?_
                refine g_iaddI (pc := 141) X dX9_split_141 ?_
                refine g_iload_n (pc := 142) X 0 rfl dX9_split_142 ?_
                refine g_maxI (pc := 143) X mw_12_10 mw_12_11 mw_25_23 mw_12_13 (by decide) (Nat.le_of_ble_eq_true rfl) (by decide) (by decide) ⟨by omega, by omega⟩ ⟨by omega, by omega⟩ dX9_split_143 ?_
                refine g_nameI (fun y22 ey22 => ?_)
                have my22 : pl + 1 ≤ y22 ∧ pl + 1 ≤ y22 ∧ (y22 = pl + 1 ∨ y22 = pl + 1) := by rw [ey22]; exact maxF _ _
                clear ey22
                refine g_istore_n (pc := 146) X (i := 1) rfl (by decide) (lv' := [(1, .int (iI y22)), (2, .int (iI (pl + 1))), (0, .ref t0)]) rfl dX9_split_146 ?_
                refine g_goto (pc := 147) X 7 (by decide) dX9_split_147 ?_
                refine g_lv (lv' := [(1, .int (iI y22)), (0, .ref t0)]) [0, 2] rfl ?_
                refine g_ws (ws' := [cO_riirrr t0 9 t_bytes ts y20 t_kinds t_places t_values, cA Z t_bytes 0 400 Tb, cA Z t_kinds 0 401 F17, cA Z t_places 0 401 F18, cA Z t_values 0 401 F19]) [1, 0, 2, 3, 4] (by decide) rfl ?_
                exact ih y22 y20 F17 F18 F19 (by omega) (by omega) (hf136_h_Tk2) (hf136_h_Tp2) (hf136_h_Tv2) (by omega) (by omega) (fun j hj => tok_add hT (by omega) ivA ivS (by omega) (by omega) hf136_e1 hf136_e2 hf136_e3 (kdA_s (by omega) (by omega) (by omega)) (vlA_o (by omega)) j (by omega)) (by rw [show (y20).toNat = (tq + 1).toNat by omega]; exact tok_nxt hT.2.2 (by omega) ivS (by omega) (by omega) (by rw [tkE_o (by omega) (by omega) (by omega)]; omega)) (by omega)
          · refine g_aload_n (pc := 76) X 2 rfl dX9_split_76 ?_
            refine g_iload_n (pc := 77) X 1 rfl dX9_split_77 ?_
            refine g_bipush (pc := 78) X (iI 48) (by decide) dX9_split_78 ?_
            refine g_bipush (pc := 80) X (iI 57) (by decide) dX9_split_80 ?_
            refine g_callV (pc := 82) X (kx_X9_endOf l Z t0 t_bytes t_kinds t_places t_values Tb pl 48 57 ts tq b_pl (by decide) (by decide) b_ts (by omega) (by omega) (h_Tb)) iM_X9_endOf mw_12_14 mw_12_15 mw_12_16 0 rfl rfl [0, 1] [2, 3, 4] rfl (wr := [cA Z t_kinds 0 401 Kk, cA Z t_places 0 401 Kp, cA Z t_values 0 401 Kv]) rfl (by decide) rfl rfl (Nat.le_of_ble_eq_true rfl) (by decide) dX9_split_82 (fun r w' hpo => ?_)
            refine exN_1 hpo fun y23 hz => anD_8 hz fun e_r e_w hf82_b_y hf82_f1 hf82_f2 hf82_f3 hf82_fR hf82_f4 => ?_; clear hz hpo; subst e_r; subst e_w
            refine g_as (pc' := 85) (lv' := [(2, .int (iI (pl + 1))), (1, .int (iI pl)), (0, .ref t0)]) (st' := [.int (iI y23)]) (ws' := [cA Z t_kinds 0 401 Kk, cA Z t_places 0 401 Kp, cA Z t_values 0 401 Kv, cO_riirrr t0 9 t_bytes ts tq t_kinds t_places t_values, cA Z t_bytes 0 400 Tb]) rfl rfl rfl rfl ?_
            refine g_istore_n (pc := 85) X (i := 2) rfl (by decide) (lv' := [(2, .int (iI y23)), (1, .int (iI pl)), (0, .ref t0)]) rfl dX9_split_85 ?_
            refine g_aload_n (pc := 86) X 2 rfl dX9_split_86 ?_
            refine g_bipush (pc := 87) X (iI 6) (by decide) dX9_split_87 ?_
            refine g_iload_n (pc := 89) X 1 rfl dX9_split_89 ?_
            refine g_aload_n (pc := 90) X 2 rfl dX9_split_90 ?_
            refine g_iload_n (pc := 91) X 1 rfl dX9_split_91 ?_
            refine g_iload_n (pc := 92) X 0 rfl dX9_split_92 ?_
            refine g_callV (pc := 93) X (kx_X9_numberFrom l Z t0 t_bytes t_kinds t_places t_values Tb pl y23 ts tq b_pl hf82_b_y b_ts (by omega) (fun j h1 h2 => hf82_f3 j h1 h2) (by omega) (h_Tb)) iM_X9_numberFrom mw_15_7 mw_15_8 mw_15_9 3 rfl rfl [3, 4] [0, 1, 2] rfl (wr := [cA Z t_kinds 0 401 Kk, cA Z t_places 0 401 Kp, cA Z t_values 0 401 Kv]) rfl (by decide) rfl rfl (Nat.le_of_ble_eq_true rfl) (by decide) dX9_split_93 (fun r w' hpo => ?_)
            refine exN_1 hpo fun y25 hz => anD_4 hz fun e_r e_w hf93_b_y hf93_fV => ?_; clear hz hpo; subst e_r; subst e_w
            refine g_as (pc' := 96) (lv' := [(2, .int (iI y23)), (1, .int (iI pl)), (0, .ref t0)]) (st' := [.int (iI y25), .int (iI pl), .int (iI 6), .ref t0]) (ws' := [cA Z t_kinds 0 401 Kk, cA Z t_places 0 401 Kp, cA Z t_values 0 401 Kv, cO_riirrr t0 9 t_bytes ts tq t_kinds t_places t_values, cA Z t_bytes 0 400 Tb]) rfl rfl rfl rfl ?_
            refine g_callV (pc := 96) X (kx_X9_addToken l Z t0 t_bytes t_kinds t_places t_values Kk Kp Kv 6 pl y25 ts tq (by decide) b_pl hf93_b_y b_ts (by omega) (by omega) (h_Kk) (h_Kp) (h_Kv)) iM_X9_addToken mw_15_3 mw_15_4 mw_15_5 3 rfl rfl [3, 0, 1, 2] [4] rfl (wr := [cA Z t_bytes 0 400 Tb]) rfl (by decide) rfl rfl (Nat.le_of_ble_eq_true rfl) (by decide) dX9_split_96 (fun r w' hpo => ?_)
            refine exN_4 hpo fun F27 F28 F29 y30 hz => anD_10 hz fun e_r e_w hf96_b_tk2 hf96_h_Tk2 hf96_h_Tp2 hf96_h_Tv2 hf96_f1 hf96_e1 hf96_e2 hf96_e3 => ?_; clear hz hpo; subst e_r; subst e_w
            refine g_as (pc' := 99) (lv' := [(2, .int (iI y23)), (1, .int (iI pl)), (0, .ref t0)]) (st' := []) (ws' := [cA Z t_bytes 0 400 Tb, cO_riirrr t0 9 t_bytes ts y30 t_kinds t_places t_values, cA Z t_kinds 0 401 F27, cA Z t_places 0 401 F28, cA Z t_values 0 401 F29]) rfl rfl rfl rfl ?_
            refine g_goto (pc := 99) X 139 (by decide) dX9_split_99 ?_
            refine g_iload_n (pc := 139) X 1 rfl dX9_split_139 ?_
            refine g_iconst (pc := 140) X (iI 1) (by rfl) dX9_split_140 ?_
            refine g_iaddI (pc := 141) X dX9_split_141 ?_
            refine g_iload_n (pc := 142) X 0 rfl dX9_split_142 ?_
            refine g_maxI (pc := 143) X mw_12_10 mw_12_11 mw_25_23 mw_12_13 (by decide) (Nat.le_of_ble_eq_true rfl) (by decide) (by decide) ⟨by omega, by omega⟩ (inRb hf82_b_y (by decide) (by decide)) dX9_split_143 ?_
            refine g_nameI (fun y32 ey32 => ?_)
            have my32 : pl + 1 ≤ y32 ∧ y23 ≤ y32 ∧ (y32 = pl + 1 ∨ y32 = y23) := by rw [ey32]; exact maxF _ _
            clear ey32
            refine g_istore_n (pc := 146) X (i := 1) rfl (by decide) (lv' := [(1, .int (iI y32)), (2, .int (iI y23)), (0, .ref t0)]) rfl dX9_split_146 ?_
            refine g_goto (pc := 147) X 7 (by decide) dX9_split_147 ?_
            refine g_lv (lv' := [(1, .int (iI y32)), (0, .ref t0)]) [0, 2] rfl ?_
            refine g_ws (ws' := [cO_riirrr t0 9 t_bytes ts y30 t_kinds t_places t_values, cA Z t_bytes 0 400 Tb, cA Z t_kinds 0 401 F27, cA Z t_places 0 401 F28, cA Z t_values 0 401 F29]) [1, 0, 2, 3, 4] (by decide) rfl ?_
            exact ih y32 y30 F27 F28 F29 (by omega) (by omega) (hf96_h_Tk2) (hf96_h_Tp2) (hf96_h_Tv2) (by omega) (by omega) (fun j hj => tok_add hT (by omega) ivA ivS (by omega) (by omega) hf96_e1 hf96_e2 hf96_e3 ((kdA_d (by omega)).symm) (by rw [vlA_d (by omega), tkE_d (by omega) (by omega), ← hf82_fR]; exact hf93_fV) j (by omega)) (by rw [show (y30).toNat = (tq + 1).toNat by omega]; exact tok_nxt hT.2.2 (by omega) ivS (by omega) (by omega) (by rw [tkE_d (by omega) (by omega), ← hf82_fR]; have := hf82_f4 (by omega) (by omega) (by omega); omega)) (by omega)
        · refine g_aload_n (pc := 35) X 2 rfl dX9_split_35 ?_
          refine g_iload_n (pc := 36) X 1 rfl dX9_split_36 ?_
          refine g_bipush (pc := 37) X (iI 97) (by decide) dX9_split_37 ?_
          refine g_bipush (pc := 39) X (iI 122) (by decide) dX9_split_39 ?_
          refine g_callV (pc := 41) X (kx_X9_endOf l Z t0 t_bytes t_kinds t_places t_values Tb pl 97 122 ts tq b_pl (by decide) (by decide) b_ts (by omega) (by omega) (h_Tb)) iM_X9_endOf mw_12_14 mw_12_15 mw_12_16 0 rfl rfl [0, 1] [2, 3, 4] rfl (wr := [cA Z t_kinds 0 401 Kk, cA Z t_places 0 401 Kp, cA Z t_values 0 401 Kv]) rfl (by decide) rfl rfl (Nat.le_of_ble_eq_true rfl) (by decide) dX9_split_41 (fun r w' hpo => ?_)
          refine exN_1 hpo fun y33 hz => anD_8 hz fun e_r e_w hf41_b_y hf41_f1 hf41_f2 hf41_f3 hf41_fR hf41_f4 => ?_; clear hz hpo; subst e_r; subst e_w
          refine g_as (pc' := 44) (lv' := [(2, .int (iI (pl + 1))), (1, .int (iI pl)), (0, .ref t0)]) (st' := [.int (iI y33)]) (ws' := [cA Z t_kinds 0 401 Kk, cA Z t_places 0 401 Kp, cA Z t_values 0 401 Kv, cO_riirrr t0 9 t_bytes ts tq t_kinds t_places t_values, cA Z t_bytes 0 400 Tb]) rfl rfl rfl rfl ?_
          refine g_istore_n (pc := 44) X (i := 2) rfl (by decide) (lv' := [(2, .int (iI y33)), (1, .int (iI pl)), (0, .ref t0)]) rfl dX9_split_44 ?_
          refine g_aload_n (pc := 45) X 2 rfl dX9_split_45 ?_
          refine g_aload_n (pc := 46) X 2 rfl dX9_split_46 ?_
          refine g_iload_n (pc := 47) X 1 rfl dX9_split_47 ?_
          refine g_iload_n (pc := 48) X 0 rfl dX9_split_48 ?_
          refine g_callV (pc := 49) X (kx_X9_wordKind l Z t0 t_bytes t_kinds t_places t_values Tb pl y33 ts tq b_pl hf41_b_y b_ts (by omega) (h_Tb)) iM_X9_wordKind mw_12_18 mw_12_19 mw_12_20 3 rfl rfl [3, 4] [0, 1, 2] rfl (wr := [cA Z t_kinds 0 401 Kk, cA Z t_places 0 401 Kp, cA Z t_values 0 401 Kv]) rfl (by decide) rfl rfl (Nat.le_of_ble_eq_true rfl) (by decide) dX9_split_49 (fun r w' hpo => ?_)
          refine exN_1 hpo fun y35 hz => anD_4 hz fun e_r e_w hf49_b_y hf49_fW => ?_; clear hz hpo; subst e_r; subst e_w
          refine g_as (pc' := 52) (lv' := [(2, .int (iI y33)), (1, .int (iI pl)), (0, .ref t0)]) (st' := [.int (iI y35), .ref t0]) (ws' := [cA Z t_kinds 0 401 Kk, cA Z t_places 0 401 Kp, cA Z t_values 0 401 Kv, cO_riirrr t0 9 t_bytes ts tq t_kinds t_places t_values, cA Z t_bytes 0 400 Tb]) rfl rfl rfl rfl ?_
          refine g_iload_n (pc := 52) X 1 rfl dX9_split_52 ?_
          refine g_iconst (pc := 53) X (iI 0) (by rfl) dX9_split_53 ?_
          refine g_callV (pc := 54) X (kx_X9_addToken l Z t0 t_bytes t_kinds t_places t_values Kk Kp Kv y35 pl 0 ts tq (by omega) b_pl (by decide) b_ts (by omega) (by omega) (h_Kk) (h_Kp) (h_Kv)) iM_X9_addToken mw_15_3 mw_15_4 mw_15_5 3 rfl rfl [3, 0, 1, 2] [4] rfl (wr := [cA Z t_bytes 0 400 Tb]) rfl (by decide) rfl rfl (Nat.le_of_ble_eq_true rfl) (by decide) dX9_split_54 (fun r w' hpo => ?_)
          refine exN_4 hpo fun F37 F38 F39 y40 hz => anD_10 hz fun e_r e_w hf54_b_tk2 hf54_h_Tk2 hf54_h_Tp2 hf54_h_Tv2 hf54_f1 hf54_e1 hf54_e2 hf54_e3 => ?_; clear hz hpo; subst e_r; subst e_w
          refine g_as (pc' := 57) (lv' := [(2, .int (iI y33)), (1, .int (iI pl)), (0, .ref t0)]) (st' := []) (ws' := [cA Z t_bytes 0 400 Tb, cO_riirrr t0 9 t_bytes ts y40 t_kinds t_places t_values, cA Z t_kinds 0 401 F37, cA Z t_places 0 401 F38, cA Z t_values 0 401 F39]) rfl rfl rfl rfl ?_
          refine g_goto (pc := 57) X 139 (by decide) dX9_split_57 ?_
          refine g_iload_n (pc := 139) X 1 rfl dX9_split_139 ?_
          refine g_iconst (pc := 140) X (iI 1) (by rfl) dX9_split_140 ?_
          refine g_iaddI (pc := 141) X dX9_split_141 ?_
          refine g_iload_n (pc := 142) X 0 rfl dX9_split_142 ?_
          refine g_maxI (pc := 143) X mw_12_10 mw_12_11 mw_25_23 mw_12_13 (by decide) (Nat.le_of_ble_eq_true rfl) (by decide) (by decide) ⟨by omega, by omega⟩ (inRb hf41_b_y (by decide) (by decide)) dX9_split_143 ?_
          refine g_nameI (fun y42 ey42 => ?_)
          have my42 : pl + 1 ≤ y42 ∧ y33 ≤ y42 ∧ (y42 = pl + 1 ∨ y42 = y33) := by rw [ey42]; exact maxF _ _
          clear ey42
          refine g_istore_n (pc := 146) X (i := 1) rfl (by decide) (lv' := [(1, .int (iI y42)), (2, .int (iI y33)), (0, .ref t0)]) rfl dX9_split_146 ?_
          refine g_goto (pc := 147) X 7 (by decide) dX9_split_147 ?_
          refine g_lv (lv' := [(1, .int (iI y42)), (0, .ref t0)]) [0, 2] rfl ?_
          refine g_ws (ws' := [cO_riirrr t0 9 t_bytes ts y40 t_kinds t_places t_values, cA Z t_bytes 0 400 Tb, cA Z t_kinds 0 401 F37, cA Z t_places 0 401 F38, cA Z t_values 0 401 F39]) [1, 0, 2, 3, 4] (by decide) rfl ?_
          exact ih y42 y40 F37 F38 F39 (by omega) (by omega) (hf54_h_Tk2) (hf54_h_Tp2) (hf54_h_Tv2) (by omega) (by omega) (fun j hj => tok_add hT (by omega) ivA ivS (by omega) (by omega) hf54_e1 hf54_e2 hf54_e3 (by rw [kdA_w (by omega), tkE_w (by omega) (by omega), ← hf41_fR]; exact hf49_fW) (vlA_o (by omega)) j (by omega)) (by rw [show (y40).toNat = (tq + 1).toNat by omega]; exact tok_nxt hT.2.2 (by omega) ivS (by omega) (by omega) (by rw [tkE_w (by omega) (by omega), ← hf41_fR]; have := hf41_f4 (by omega) (by omega) (by omega); omega)) (by omega)
  exact loop7 _ 0 0 Tk Tp Tv (by omega) (by omega) (h_Tk) (h_Tp) (h_Tv) (by omega) (by omega) (fun j hj => absurd hj (by omega)) (by rw [hT.2.2]; rfl) (Nat.lt_succ_self _)
