set_option maxHeartbeats 4000000 in
set_option maxRecDepth 100000 in
theorem k_X4_isNext (l : Launch) (Z : gZ) (e0 : Nat) (t0 : Nat) (r0 : Nat) (t_bytes : Nat) (t_kinds : Nat) (t_places : Nat) (t_values : Nat) (Tk : Nat → Int) (kd : Int) (to0 : Int) (ts : Int) (tk : Int) (b_kd : (-2147483648) ≤ kd ∧ kd ≤ 2147483647) (b_to0 : 0 ≤ to0 ∧ to0 ≤ 401) (b_ts : 0 ≤ ts ∧ ts ≤ 400) (b_tk : 0 ≤ tk ∧ tk ≤ 401) (h_Tk : ∀ j, j < 401 → 0 ≤ Tk j ∧ Tk j ≤ 10) : Con l Z yX4_isNext cX4_isNext 2 (some .boolean) 0 0 0 0 [.ref e0, .int (iI kd)] [cO_rri e0 4 t0 r0 to0, cO_riirrr t0 9 t_bytes ts tk t_kinds t_places t_values, cA Z t_kinds 0 401 Tk] (fun r w' => (r = some (.int (iI (bI (to0 < tk ∧ Tk to0.toNat = kd))))) ∧ (w' = [cO_rri e0 4 t0 r0 to0, cO_riirrr t0 9 t_bytes ts tk t_kinds t_places t_values, cA Z t_kinds 0 401 Tk])) := by
  refine enter (by decide) (Nat.le_of_ble_eq_true rfl) ?_
  intro p e s m args below meth c A X hnm hA
  have X : Cx p s m args meth c cX4_isNext 2 (some .boolean) RX4 Z A := X
  refine g_as (pc' := 0) (lv' := [(0, .ref e0), (1, .int (iI kd))]) (st' := []) (ws' := [cO_rri e0 4 t0 r0 to0, cO_riirrr t0 9 t_bytes ts tk t_kinds t_places t_values, cA Z t_kinds 0 401 Tk]) rfl rfl rfl rfl ?_
  refine g_aload_n (pc := 0) X 0 rfl dX4_isNext_0 ?_
  refine g_get (pc := 1) X inlX4 0 rfl rfl 2 (by decide) mw_12_0 rfl dX4_isNext_1 ?_
  refine g_aload_n (pc := 4) X 0 rfl dX4_isNext_4 ?_
  refine g_get (pc := 5) X inlX4 0 rfl rfl 0 (by decide) mw_3_20 rfl dX4_isNext_5 ?_
  refine g_get (pc := 8) X inlX9 1 rfl rfl 2 (by decide) mw_16_10 rfl dX4_isNext_8 ?_
  refine g_icmp_geI (pc := 11) X 34 (by decide) (inRb b_to0 (by decide) (by decide)) (inRb b_tk (by decide) (by decide)) dX4_isNext_11 (fun c11 => ?_) (fun c11 => ?_)
  · refine g_iconst (pc := 34) X (iI 0) (by rfl) dX4_isNext_34 ?_
    exact g_zret (pc := 35) X hA (rfl) (⟨congrArg (fun z => some (Value.int (iI z))) ((bI_f (by omega)).symm), rfl⟩) (by decide) (by decide) dX4_isNext_35
  · refine g_aload_n (pc := 14) X 0 rfl dX4_isNext_14 ?_
    refine g_get (pc := 15) X inlX4 0 rfl rfl 0 (by decide) mw_3_20 rfl dX4_isNext_15 ?_
    refine g_get (pc := 18) X inlX9 1 rfl rfl 3 (by decide) mw_16_11 rfl dX4_isNext_18 ?_
    refine g_aload_n (pc := 21) X 0 rfl dX4_isNext_21 ?_
    refine g_get (pc := 22) X inlX4 0 rfl rfl 2 (by decide) mw_12_0 rfl dX4_isNext_22 ?_
    refine g_ialdI (pc := 25) X 2 rfl (b_to0.1) (by omega) (Int.le_trans b_to0.2 (by decide)) dX4_isNext_25 ?_
    refine g_nameI (fun y1 ey1 => ?_)
    have by1 : 0 ≤ y1 ∧ y1 ≤ 10 := by rw [ey1]; exact h_Tk _ (by omega)
    refine g_iload_n (pc := 26) X 1 rfl dX4_isNext_26 ?_
    refine g_icmp_neI (pc := 27) X 34 (by decide) (inRb by1 (by decide) (by decide)) b_kd dX4_isNext_27 (fun c27 => ?_) (fun c27 => ?_)
    · refine g_iconst (pc := 34) X (iI 0) (by rfl) dX4_isNext_34 ?_
      exact g_zret (pc := 35) X hA (rfl) (⟨congrArg (fun z => some (Value.int (iI z))) ((bI_f (by omega)).symm), rfl⟩) (by decide) (by decide) dX4_isNext_35
    · refine g_iconst (pc := 30) X (iI 1) (by rfl) dX4_isNext_30 ?_
      refine g_goto (pc := 31) X 35 (by decide) dX4_isNext_31 ?_
      exact g_zret (pc := 35) X hA (rfl) (⟨congrArg (fun z => some (Value.int (iI z))) ((bI_t (by omega)).symm), rfl⟩) (by decide) (by decide) dX4_isNext_35

set_option maxHeartbeats 4000000 in
set_option maxRecDepth 100000 in
theorem k_X4_placeOfNext (l : Launch) (Z : gZ) (e0 : Nat) (t0 : Nat) (r0 : Nat) (t_bytes : Nat) (t_kinds : Nat) (t_places : Nat) (t_values : Nat) (Tp : Nat → Int) (to0 : Int) (ts : Int) (tk : Int) (b_to0 : 0 ≤ to0 ∧ to0 ≤ 401) (b_ts : 0 ≤ ts ∧ ts ≤ 400) (b_tk : 0 ≤ tk ∧ tk ≤ 401) (h_Tp : ∀ j, j < 401 → 0 ≤ Tp j ∧ Tp j ≤ 400) : Con l Z yX4_placeOfNext cX4_placeOfNext 1 (some .int) 0 0 0 0 [.ref e0] [cO_rri e0 4 t0 r0 to0, cO_riirrr t0 9 t_bytes ts tk t_kinds t_places t_values, cA Z t_places 0 401 Tp] (fun r w' => ∃ (y : Int), (r = some (.int (iI y))) ∧ (w' = [cO_rri e0 4 t0 r0 to0, cO_riirrr t0 9 t_bytes ts tk t_kinds t_places t_values, cA Z t_places 0 401 Tp]) ∧ (0 ≤ y ∧ y ≤ 400)) := by
  refine enter (by decide) (Nat.le_of_ble_eq_true rfl) ?_
  intro p e s m args below meth c A X hnm hA
  have X : Cx p s m args meth c cX4_placeOfNext 1 (some .int) RX4 Z A := X
  refine g_as (pc' := 0) (lv' := [(0, .ref e0)]) (st' := []) (ws' := [cO_rri e0 4 t0 r0 to0, cO_riirrr t0 9 t_bytes ts tk t_kinds t_places t_values, cA Z t_places 0 401 Tp]) rfl rfl rfl rfl ?_
  refine g_aload_n (pc := 0) X 0 rfl dX4_placeOfNext_0 ?_
  refine g_get (pc := 1) X inlX4 0 rfl rfl 2 (by decide) mw_12_0 rfl dX4_placeOfNext_1 ?_
  refine g_aload_n (pc := 4) X 0 rfl dX4_placeOfNext_4 ?_
  refine g_get (pc := 5) X inlX4 0 rfl rfl 0 (by decide) mw_3_20 rfl dX4_placeOfNext_5 ?_
  refine g_get (pc := 8) X inlX9 1 rfl rfl 2 (by decide) mw_16_10 rfl dX4_placeOfNext_8 ?_
  refine g_icmp_geI (pc := 11) X 29 (by decide) (inRb b_to0 (by decide) (by decide)) (inRb b_tk (by decide) (by decide)) dX4_placeOfNext_11 (fun c11 => ?_) (fun c11 => ?_)
  · refine g_aload_n (pc := 29) X 0 rfl dX4_placeOfNext_29 ?_
    refine g_get (pc := 30) X inlX4 0 rfl rfl 0 (by decide) mw_3_20 rfl dX4_placeOfNext_30 ?_
    refine g_get (pc := 33) X inlX9 1 rfl rfl 1 (by decide) mw_12_4 rfl dX4_placeOfNext_33 ?_
    exact g_iret (pc := 36) X hA (⟨ts, rfl, rfl, (b_ts)⟩) (by decide) (by decide) dX4_placeOfNext_36
  · refine g_aload_n (pc := 14) X 0 rfl dX4_placeOfNext_14 ?_
    refine g_get (pc := 15) X inlX4 0 rfl rfl 0 (by decide) mw_3_20 rfl dX4_placeOfNext_15 ?_
    refine g_get (pc := 18) X inlX9 1 rfl rfl 4 (by decide) mw_19_12 rfl dX4_placeOfNext_18 ?_
    refine g_aload_n (pc := 21) X 0 rfl dX4_placeOfNext_21 ?_
    refine g_get (pc := 22) X inlX4 0 rfl rfl 2 (by decide) mw_12_0 rfl dX4_placeOfNext_22 ?_
    refine g_ialdI (pc := 25) X 2 rfl (b_to0.1) (by omega) (Int.le_trans b_to0.2 (by decide)) dX4_placeOfNext_25 ?_
    refine g_nameI (fun y1 ey1 => ?_)
    have by1 : 0 ≤ y1 ∧ y1 ≤ 400 := by rw [ey1]; exact h_Tp _ (by omega)
    refine g_goto (pc := 26) X 36 (by decide) dX4_placeOfNext_26 ?_
    exact g_iret (pc := 36) X hA (⟨y1, rfl, rfl, (by1)⟩) (by decide) (by decide) dX4_placeOfNext_36

set_option maxHeartbeats 4000000 in
set_option maxRecDepth 100000 in
theorem k_X4_readNumber (l : Launch) (Z : gZ) (e0 : Nat) (t0 : Nat) (r0 : Nat) (t_bytes : Nat) (t_kinds : Nat) (t_places : Nat) (t_values : Nat) (Tk : Nat → Int) (Tv : Nat → Int) (le : Int) (mo : Int) (to0 : Int) (ts : Int) (tk : Int) (b_le : (-2147483648) ≤ le ∧ le ≤ 2147483647) (b_mo : (-2147483648) ≤ mo ∧ mo ≤ 2147483647) (b_to0 : 0 ≤ to0 ∧ to0 ≤ 401) (b_ts : 0 ≤ ts ∧ ts ≤ 400) (b_tk : 0 ≤ tk ∧ tk ≤ 401) (h_Tk : ∀ j, j < 401 → 0 ≤ Tk j ∧ Tk j ≤ 10) (h_Tv : ∀ j, j < 401 → 0 ≤ Tv j ∧ Tv j ≤ 100000) : Con l Z yX4_readNumber cX4_readNumber 3 (some .int) 1 22 0 0 [.ref e0, .int (iI le), .int (iI mo)] [cO_rri e0 4 t0 r0 to0, cO_riirrr t0 9 t_bytes ts tk t_kinds t_places t_values, cA Z t_kinds 0 401 Tk, cA Z t_values 0 401 Tv] (fun r w' => ((r = some (.int (iI (-1)))) ∧ (w' = [cO_rri e0 4 t0 r0 to0, cO_riirrr t0 9 t_bytes ts tk t_kinds t_places t_values, cA Z t_kinds 0 401 Tk, cA Z t_values 0 401 Tv])) ∨ (∃ (y : Int) (to2 : Int), (r = some (.int (iI y))) ∧ (w' = [cO_rri e0 4 t0 r0 to2, cO_riirrr t0 9 t_bytes ts tk t_kinds t_places t_values, cA Z t_kinds 0 401 Tk, cA Z t_values 0 401 Tv]) ∧ (0 ≤ y ∧ y ≤ 100000) ∧ (0 ≤ to2 ∧ to2 ≤ 401) ∧ (le ≤ y ∧ y ≤ mo) ∧ (to2 = to0 + 1) ∧ (to0 < tk))) := by
  refine enter (by decide) (Nat.le_of_ble_eq_true rfl) ?_
  intro p e s m args below meth c A X hnm hA
  have X : Cx p s m args meth c cX4_readNumber 3 (some .int) RX4 Z A := X
  refine g_as (pc' := 0) (lv' := [(0, .ref e0), (1, .int (iI le)), (2, .int (iI mo))]) (st' := []) (ws' := [cO_rri e0 4 t0 r0 to0, cO_riirrr t0 9 t_bytes ts tk t_kinds t_places t_values, cA Z t_kinds 0 401 Tk, cA Z t_values 0 401 Tv]) rfl rfl rfl rfl ?_
  refine g_aload_n (pc := 0) X 0 rfl dX4_readNumber_0 ?_
  refine g_bipush (pc := 1) X (iI 6) (by decide) dX4_readNumber_1 ?_
  refine g_callV (pc := 3) X (k_X4_isNext l Z e0 t0 r0 t_bytes t_kinds t_places t_values Tk 6 to0 ts tk (by decide) b_to0 b_ts b_tk (h_Tk)) iM_X4_isNext mw_16_6 mw_16_7 mw_16_8 0 rfl rfl [0, 1, 2] [3] rfl (wr := [cA Z t_values 0 401 Tv]) rfl (by decide) rfl rfl (Nat.le_of_ble_eq_true rfl) (by decide) dX4_readNumber_3 (fun r w' hpo => ?_)
  obtain ⟨rfl, rfl⟩ := hpo
  refine g_as (pc' := 6) (lv' := [(0, .ref e0), (1, .int (iI le)), (2, .int (iI mo))]) (st' := [.int (iI (bI (to0 < tk ∧ Tk to0.toNat = 6)))]) (ws' := [cA Z t_values 0 401 Tv, cO_rri e0 4 t0 r0 to0, cO_riirrr t0 9 t_bytes ts tk t_kinds t_places t_values, cA Z t_kinds 0 401 Tk]) rfl rfl rfl rfl ?_
  refine g_if_eqB (pc := 6) X 29 (by decide) dX4_readNumber_6 (fun c6 => ?_) (fun c6 => ?_)
  · refine g_iconst (pc := 29) X (iI (-1)) (by rfl) dX4_readNumber_29 ?_
    refine g_ws (ws' := [cO_rri e0 4 t0 r0 to0, cO_riirrr t0 9 t_bytes ts tk t_kinds t_places t_values, cA Z t_kinds 0 401 Tk, cA Z t_values 0 401 Tv]) [1, 2, 3, 0] (by decide) rfl ?_
    exact g_iret (pc := 30) X hA (Or.inl (⟨rfl, rfl⟩)) (by decide) (by decide) dX4_readNumber_30
  · refine g_iload_n (pc := 9) X 1 rfl dX4_readNumber_9 ?_
    refine g_aload_n (pc := 10) X 0 rfl dX4_readNumber_10 ?_
    refine g_get (pc := 11) X inlX4 1 rfl rfl 0 (by decide) mw_3_20 rfl dX4_readNumber_11 ?_
    refine g_get (pc := 14) X inlX9 2 rfl rfl 5 (by decide) mw_17_2 rfl dX4_readNumber_14 ?_
    refine g_aload_n (pc := 17) X 0 rfl dX4_readNumber_17 ?_
    refine g_get (pc := 18) X inlX4 1 rfl rfl 2 (by decide) mw_12_0 rfl dX4_readNumber_18 ?_
    refine g_ialdI (pc := 21) X 0 rfl (b_to0.1) (by omega) (Int.le_trans b_to0.2 (by decide)) dX4_readNumber_21 ?_
    refine g_nameI (fun y2 ey2 => ?_)
    have by2 : 0 ≤ y2 ∧ y2 ≤ 100000 := by rw [ey2]; exact h_Tv _ (by omega)
    refine g_iload_n (pc := 22) X 2 rfl dX4_readNumber_22 ?_
    refine g_callSN (pc := 23) X (k_X11_isFrom l Z le y2 mo b_le (by omega) b_mo) iM_X11_isFrom (by decide) mw_11_7 [] [0, 1, 2, 3] rfl (wr := [cA Z t_values 0 401 Tv, cO_rri e0 4 t0 r0 to0, cO_riirrr t0 9 t_bytes ts tk t_kinds t_places t_values, cA Z t_kinds 0 401 Tk]) rfl (by decide) rfl rfl (Nat.le_of_ble_eq_true rfl) (by decide) dX4_readNumber_23 (fun r w' hpo => ?_)
    obtain ⟨rfl, rfl⟩ := hpo
    refine g_as (pc' := 26) (lv' := [(0, .ref e0), (1, .int (iI le)), (2, .int (iI mo))]) (st' := [.int (iI (bI (le ≤ y2 ∧ y2 ≤ mo)))]) (ws' := [cA Z t_values 0 401 Tv, cO_rri e0 4 t0 r0 to0, cO_riirrr t0 9 t_bytes ts tk t_kinds t_places t_values, cA Z t_kinds 0 401 Tk]) rfl rfl rfl rfl ?_
    refine g_if_neB (pc := 26) X 31 (by decide) dX4_readNumber_26 (fun c26 => ?_) (fun c26 => ?_)
    · refine g_aload_n (pc := 31) X 0 rfl dX4_readNumber_31 ?_
      refine g_dup (pc := 32) X rfl dX4_readNumber_32 ?_
      refine g_get (pc := 33) X inlX4 1 rfl rfl 2 (by decide) mw_12_0 rfl dX4_readNumber_33 ?_
      refine g_iconst (pc := 36) X (iI 1) (by rfl) dX4_readNumber_36 ?_
      refine g_iaddI (pc := 37) X dX4_readNumber_37 ?_
      refine g_put (pc := 38) X inlX4 tyX4_ok nmX4 1 rfl rfl 2 (by decide) mw_12_0 rfl rfl rfl (Nat.le_of_ble_eq_true rfl) (ws' := [cA Z t_values 0 401 Tv, cO_rri e0 4 t0 r0 (to0 + 1), cO_riirrr t0 9 t_bytes ts tk t_kinds t_places t_values, cA Z t_kinds 0 401 Tk]) rfl dX4_readNumber_38 ?_
      refine g_aload_n (pc := 41) X 0 rfl dX4_readNumber_41 ?_
      refine g_get (pc := 42) X inlX4 1 rfl rfl 0 (by decide) mw_3_20 rfl dX4_readNumber_42 ?_
      refine g_get (pc := 45) X inlX9 2 rfl rfl 5 (by decide) mw_17_2 rfl dX4_readNumber_45 ?_
      refine g_aload_n (pc := 48) X 0 rfl dX4_readNumber_48 ?_
      refine g_get (pc := 49) X inlX4 1 rfl rfl 2 (by decide) mw_12_0 rfl dX4_readNumber_49 ?_
      refine g_iconst (pc := 52) X (iI 1) (by rfl) dX4_readNumber_52 ?_
      refine g_isubI (pc := 53) X dX4_readNumber_53 ?_
      refine g_ialdI (pc := 54) X 0 rfl (by omega) (by omega) (by omega) dX4_readNumber_54 ?_
      refine g_nameI (fun y4 ey4 => ?_)
      have by4 : 0 ≤ y4 ∧ y4 ≤ 100000 := by rw [ey4]; exact h_Tv _ (by omega)
      refine g_ws (ws' := [cO_rri e0 4 t0 r0 (to0 + 1), cO_riirrr t0 9 t_bytes ts tk t_kinds t_places t_values, cA Z t_kinds 0 401 Tk, cA Z t_values 0 401 Tv]) [1, 2, 3, 0] (by decide) rfl ?_
      exact g_iret (pc := 55) X hA (Or.inr (⟨y4, (to0 + 1), rfl, rfl, (by4), (by omega), (by have q : (to0 + 1 - 1).toNat = to0.toNat := (by omega); rw [q] at ey4; omega), (by omega), (by omega)⟩)) (by decide) (by decide) dX4_readNumber_55
    · refine g_iconst (pc := 29) X (iI (-1)) (by rfl) dX4_readNumber_29 ?_
      refine g_ws (ws' := [cO_rri e0 4 t0 r0 to0, cO_riirrr t0 9 t_bytes ts tk t_kinds t_places t_values, cA Z t_kinds 0 401 Tk, cA Z t_values 0 401 Tv]) [1, 2, 3, 0] (by decide) rfl ?_
      exact g_iret (pc := 30) X hA (Or.inl (⟨rfl, rfl⟩)) (by decide) (by decide) dX4_readNumber_30

set_option maxHeartbeats 4000000 in
set_option maxRecDepth 100000 in
theorem k_X4_readSign (l : Launch) (Z : gZ) (e0 : Nat) (t0 : Nat) (r0 : Nat) (t_bytes : Nat) (t_kinds : Nat) (t_places : Nat) (t_values : Nat) (Tk : Nat → Int) (kd : Int) (to0 : Int) (ts : Int) (tk : Int) (b_kd : (-2147483648) ≤ kd ∧ kd ≤ 2147483647) (b_to0 : 0 ≤ to0 ∧ to0 ≤ 401) (b_ts : 0 ≤ ts ∧ ts ≤ 400) (b_tk : 0 ≤ tk ∧ tk ≤ 401) (h_Tk : ∀ j, j < 401 → 0 ≤ Tk j ∧ Tk j ≤ 10) : Con l Z yX4_readSign cX4_readSign 2 (some .boolean) 1 21 0 0 [.ref e0, .int (iI kd)] [cO_rri e0 4 t0 r0 to0, cO_riirrr t0 9 t_bytes ts tk t_kinds t_places t_values, cA Z t_kinds 0 401 Tk] (fun r w' => ((r = some (.int (iI 0))) ∧ (w' = [cO_rri e0 4 t0 r0 to0, cO_riirrr t0 9 t_bytes ts tk t_kinds t_places t_values, cA Z t_kinds 0 401 Tk])) ∨ (∃ (to2 : Int), (r = some (.int (iI 1))) ∧ (w' = [cO_rri e0 4 t0 r0 to2, cO_riirrr t0 9 t_bytes ts tk t_kinds t_places t_values, cA Z t_kinds 0 401 Tk]) ∧ (0 ≤ to2 ∧ to2 ≤ 401) ∧ (to2 = to0 + 1) ∧ (to0 < tk))) := by
  refine enter (by decide) (Nat.le_of_ble_eq_true rfl) ?_
  intro p e s m args below meth c A X hnm hA
  have X : Cx p s m args meth c cX4_readSign 2 (some .boolean) RX4 Z A := X
  refine g_as (pc' := 0) (lv' := [(0, .ref e0), (1, .int (iI kd))]) (st' := []) (ws' := [cO_rri e0 4 t0 r0 to0, cO_riirrr t0 9 t_bytes ts tk t_kinds t_places t_values, cA Z t_kinds 0 401 Tk]) rfl rfl rfl rfl ?_
  refine g_aload_n (pc := 0) X 0 rfl dX4_readSign_0 ?_
  refine g_iload_n (pc := 1) X 1 rfl dX4_readSign_1 ?_
  refine g_callV (pc := 2) X (k_X4_isNext l Z e0 t0 r0 t_bytes t_kinds t_places t_values Tk kd to0 ts tk b_kd b_to0 b_ts b_tk (h_Tk)) iM_X4_isNext mw_16_6 mw_16_7 mw_16_8 0 rfl rfl [0, 1, 2] [] rfl (wr := []) rfl (by decide) rfl rfl (Nat.le_of_ble_eq_true rfl) (by decide) dX4_readSign_2 (fun r w' hpo => ?_)
  obtain ⟨rfl, rfl⟩ := hpo
  refine g_as (pc' := 5) (lv' := [(0, .ref e0), (1, .int (iI kd))]) (st' := [.int (iI (bI (to0 < tk ∧ Tk to0.toNat = kd)))]) (ws' := [cO_rri e0 4 t0 r0 to0, cO_riirrr t0 9 t_bytes ts tk t_kinds t_places t_values, cA Z t_kinds 0 401 Tk]) rfl rfl rfl rfl ?_
  refine g_if_neB (pc := 5) X 10 (by decide) dX4_readSign_5 (fun c5 => ?_) (fun c5 => ?_)
  · refine g_aload_n (pc := 10) X 0 rfl dX4_readSign_10 ?_
    refine g_dup (pc := 11) X rfl dX4_readSign_11 ?_
    refine g_get (pc := 12) X inlX4 0 rfl rfl 2 (by decide) mw_12_0 rfl dX4_readSign_12 ?_
    refine g_iconst (pc := 15) X (iI 1) (by rfl) dX4_readSign_15 ?_
    refine g_iaddI (pc := 16) X dX4_readSign_16 ?_
    refine g_put (pc := 17) X inlX4 tyX4_ok nmX4 0 rfl rfl 2 (by decide) mw_12_0 rfl rfl rfl (Nat.le_of_ble_eq_true rfl) (ws' := [cO_rri e0 4 t0 r0 (to0 + 1), cO_riirrr t0 9 t_bytes ts tk t_kinds t_places t_values, cA Z t_kinds 0 401 Tk]) rfl dX4_readSign_17 ?_
    refine g_iconst (pc := 20) X (iI 1) (by rfl) dX4_readSign_20 ?_
    exact g_zret (pc := 21) X hA (rfl) (Or.inr (⟨(to0 + 1), rfl, rfl, (by omega), (by omega), (by omega)⟩)) (by decide) (by decide) dX4_readSign_21
  · refine g_iconst (pc := 8) X (iI 0) (by rfl) dX4_readSign_8 ?_
    exact g_zret (pc := 9) X hA (rfl) (Or.inl (⟨rfl, rfl⟩)) (by decide) (by decide) dX4_readSign_9

set_option maxHeartbeats 4000000 in
set_option maxRecDepth 100000 in
theorem k_X4_readWall (l : Launch) (Z : gZ) (e0 : Nat) (t0 : Nat) (r0 : Nat) (t_bytes : Nat) (t_kinds : Nat) (t_places : Nat) (t_values : Nat) (w0 : Nat) (r_doors : Nat) (r_openingWalls : Nat) (r_froms : Nat) (r_tos : Nat) (r_lowers : Nat) (r_uppers : Nat) (r_standWalls : Nat) (r_standXs : Nat) (r_standYs : Nat) (w_begins : Nat) (w_lengths : Nat) (w_lefts : Nat) (w_rights : Nat) (w_leans : Nat) (w_leaning : Nat) (Tk : Nat → Int) (Tv : Nat → Int) (Wb : Nat → Int) (Wl : Nat → Int) (Wh : Nat → Int) (Wk : Nat → Int) (Wm : Nat → Int) (Wz : Nat → Int) (to0 : Int) (ts : Int) (tk : Int) (ro : Int) (rs : Int) (wn : Int) (wr : Int) (b_to0 : 0 ≤ to0 ∧ to0 ≤ 401) (b_ts : 0 ≤ ts ∧ ts ≤ 400) (b_tk : 0 ≤ tk ∧ tk ≤ 401) (b_ro : 0 ≤ ro ∧ ro ≤ 8) (b_rs : 0 ≤ rs ∧ rs ≤ 4) (b_wn : 0 ≤ wn ∧ wn ≤ 8) (b_wr : 0 ≤ wr ∧ wr ≤ 4800) (hn : to0 < tk) (hr : wr ≤ 600 * wn) (h_Tk : ∀ j, j < 401 → 0 ≤ Tk j ∧ Tk j ≤ 10) (h_Tv : ∀ j, j < 401 → 0 ≤ Tv j ∧ Tv j ≤ 100000) (h_Wb : ∀ j, j < 8 → 0 ≤ Wb j ∧ Wb j ≤ 4800) (h_Wl : ∀ j, j < 8 → 0 ≤ Wl j ∧ Wl j ≤ 600) (h_Wh : ∀ j, j < 8 → 0 ≤ Wh j ∧ Wh j ≤ 400) (h_Wk : ∀ j, j < 8 → 0 ≤ Wk j ∧ Wk j ≤ 400) (h_Wm : ∀ j, j < 8 → (-50) ≤ Wm j ∧ Wm j ≤ 50) (h_Wz : ∀ j, j < 8 → 0 ≤ Wz j ∧ Wz j ≤ 1) : Con l Z yX4_readWall cX4_readWall 4 (some .boolean) 2 44 0 0 [.ref e0] [cO_rri e0 4 t0 r0 to0, cO_riirrr t0 9 t_bytes ts tk t_kinds t_places t_values, cA Z t_kinds 0 401 Tk, cA Z t_values 0 401 Tv, cO_rirrrrrrirrr r0 6 w0 ro r_doors r_openingWalls r_froms r_tos r_lowers r_uppers rs r_standWalls r_standXs r_standYs, cO_rrrrrrii w0 10 w_begins w_lengths w_lefts w_rights w_leans w_leaning wn wr, cA Z w_begins 0 8 Wb, cA Z w_lengths 0 8 Wl, cA Z w_lefts 0 8 Wh, cA Z w_rights 0 8 Wk, cA Z w_leans 0 8 Wm, cA Z w_leaning 2 8 Wz] (fun r w' => ∃ (Wb2 : Nat → Int) (Wl2 : Nat → Int) (Wh2 : Nat → Int) (Wk2 : Nat → Int) (Wm2 : Nat → Int) (Wz2 : Nat → Int) (to2 : Int) (wn2 : Int) (wr2 : Int) (y : Int), (r = some (.int (iI y))) ∧ (w' = [cO_rri e0 4 t0 r0 to2, cO_riirrr t0 9 t_bytes ts tk t_kinds t_places t_values, cA Z t_kinds 0 401 Tk, cA Z t_values 0 401 Tv, cO_rirrrrrrirrr r0 6 w0 ro r_doors r_openingWalls r_froms r_tos r_lowers r_uppers rs r_standWalls r_standXs r_standYs, cO_rrrrrrii w0 10 w_begins w_lengths w_lefts w_rights w_leans w_leaning wn2 wr2, cA Z w_begins 0 8 Wb2, cA Z w_lengths 0 8 Wl2, cA Z w_lefts 0 8 Wh2, cA Z w_rights 0 8 Wk2, cA Z w_leans 0 8 Wm2, cA Z w_leaning 2 8 Wz2]) ∧ (0 ≤ to2 ∧ to2 ≤ 401) ∧ (0 ≤ wn2 ∧ wn2 ≤ 8) ∧ (0 ≤ wr2 ∧ wr2 ≤ 4800) ∧ (0 ≤ y ∧ y ≤ 1) ∧ (∀ j, j < 8 → 0 ≤ Wb2 j ∧ Wb2 j ≤ 4800) ∧ (∀ j, j < 8 → 0 ≤ Wl2 j ∧ Wl2 j ≤ 600) ∧ (∀ j, j < 8 → 0 ≤ Wh2 j ∧ Wh2 j ≤ 400) ∧ (∀ j, j < 8 → 0 ≤ Wk2 j ∧ Wk2 j ≤ 400) ∧ (∀ j, j < 8 → (-50) ≤ Wm2 j ∧ Wm2 j ≤ 50) ∧ (∀ j, j < 8 → 0 ≤ Wz2 j ∧ Wz2 j ≤ 1) ∧ (to2 ≤ tk) ∧ (to0 < to2) ∧ (wr2 ≤ 600 * wn2)) := by
  refine enter (by decide) (Nat.le_of_ble_eq_true rfl) ?_
  intro p e s m args below meth c A X hnm hA
  have X : Cx p s m args meth c cX4_readWall 4 (some .boolean) RX4 Z A := X
  refine g_as (pc' := 0) (lv' := [(0, .ref e0)]) (st' := []) (ws' := [cO_rri e0 4 t0 r0 to0, cO_riirrr t0 9 t_bytes ts tk t_kinds t_places t_values, cA Z t_kinds 0 401 Tk, cA Z t_values 0 401 Tv, cO_rirrrrrrirrr r0 6 w0 ro r_doors r_openingWalls r_froms r_tos r_lowers r_uppers rs r_standWalls r_standXs r_standYs, cO_rrrrrrii w0 10 w_begins w_lengths w_lefts w_rights w_leans w_leaning wn wr, cA Z w_begins 0 8 Wb, cA Z w_lengths 0 8 Wl, cA Z w_lefts 0 8 Wh, cA Z w_rights 0 8 Wk, cA Z w_leans 0 8 Wm, cA Z w_leaning 2 8 Wz]) rfl rfl rfl rfl ?_
  refine g_aload_n (pc := 0) X 0 rfl dX4_readWall_0 ?_
  refine g_dup (pc := 1) X rfl dX4_readWall_1 ?_
  refine g_get (pc := 2) X inlX4 0 rfl rfl 2 (by decide) mw_12_0 rfl dX4_readWall_2 ?_
  refine g_iconst (pc := 5) X (iI 1) (by rfl) dX4_readWall_5 ?_
  refine g_iaddI (pc := 6) X dX4_readWall_6 ?_
  refine g_put (pc := 7) X inlX4 tyX4_ok nmX4 0 rfl rfl 2 (by decide) mw_12_0 rfl rfl rfl (Nat.le_of_ble_eq_true rfl) (ws' := [cO_rri e0 4 t0 r0 (to0 + 1), cO_riirrr t0 9 t_bytes ts tk t_kinds t_places t_values, cA Z t_kinds 0 401 Tk, cA Z t_values 0 401 Tv, cO_rirrrrrrirrr r0 6 w0 ro r_doors r_openingWalls r_froms r_tos r_lowers r_uppers rs r_standWalls r_standXs r_standYs, cO_rrrrrrii w0 10 w_begins w_lengths w_lefts w_rights w_leans w_leaning wn wr, cA Z w_begins 0 8 Wb, cA Z w_lengths 0 8 Wl, cA Z w_lefts 0 8 Wh, cA Z w_rights 0 8 Wk, cA Z w_leans 0 8 Wm, cA Z w_leaning 2 8 Wz]) rfl dX4_readWall_7 ?_
  refine g_aload_n (pc := 10) X 0 rfl dX4_readWall_10 ?_
  refine g_bipush (pc := 11) X (iI 50) (by decide) dX4_readWall_11 ?_
  refine g_sipush (pc := 13) X (iI 600) (by decide) dX4_readWall_13 ?_
  refine g_callV (pc := 16) X (k_X4_readNumber l Z e0 t0 r0 t_bytes t_kinds t_places t_values Tk Tv 50 600 (to0 + 1) ts tk (by decide) (by decide) (by omega) b_ts b_tk (h_Tk) (h_Tv)) iM_X4_readNumber mw_16_22 mw_16_23 mw_17_0 0 rfl rfl [0, 1, 2, 3] [4, 5, 6, 7, 8, 9, 10, 11] rfl (wr := [cO_rirrrrrrirrr r0 6 w0 ro r_doors r_openingWalls r_froms r_tos r_lowers r_uppers rs r_standWalls r_standXs r_standYs, cO_rrrrrrii w0 10 w_begins w_lengths w_lefts w_rights w_leans w_leaning wn wr, cA Z w_begins 0 8 Wb, cA Z w_lengths 0 8 Wl, cA Z w_lefts 0 8 Wh, cA Z w_rights 0 8 Wk, cA Z w_leans 0 8 Wm, cA Z w_leaning 2 8 Wz]) rfl (by decide) rfl rfl (Nat.le_of_ble_eq_true rfl) (by decide) dX4_readWall_16 (fun r w' hpo => ?_)
  rcases hpo with hp0 | hp1
  · obtain ⟨rfl, rfl⟩ := hp0
    refine g_as (pc' := 19) (lv' := [(0, .ref e0)]) (st' := [.int (iI (-1))]) (ws' := [cO_rirrrrrrirrr r0 6 w0 ro r_doors r_openingWalls r_froms r_tos r_lowers r_uppers rs r_standWalls r_standXs r_standYs, cO_rrrrrrii w0 10 w_begins w_lengths w_lefts w_rights w_leans w_leaning wn wr, cA Z w_begins 0 8 Wb, cA Z w_lengths 0 8 Wl, cA Z w_lefts 0 8 Wh, cA Z w_rights 0 8 Wk, cA Z w_leans 0 8 Wm, cA Z w_leaning 2 8 Wz, cO_rri e0 4 t0 r0 (to0 + 1), cO_riirrr t0 9 t_bytes ts tk t_kinds t_places t_values, cA Z t_kinds 0 401 Tk, cA Z t_values 0 401 Tv]) rfl rfl rfl rfl ?_
    refine g_istore_n (pc := 19) X (i := 1) rfl (by decide) (lv' := [(1, .int (iI (-1))), (0, .ref e0)]) rfl dX4_readWall_19 ?_
    refine g_iload_n (pc := 20) X 0 rfl dX4_readWall_20 ?_
    refine g_iconst (pc := 21) X (iI (-1)) (by rfl) dX4_readWall_21 ?_
    refine g_icmp_neI (pc := 22) X 29 (by decide) ⟨by decide, by decide⟩ ⟨by decide, by decide⟩ dX4_readWall_22 (fun h => absurd h (by decide)) (fun _ => ?_)
    refine g_iconst (pc := 25) X (iI (-1)) (by rfl) dX4_readWall_25 ?_
    refine g_goto (pc := 26) X 38 (by decide) dX4_readWall_26 ?_
    refine g_istore_n (pc := 38) X (i := 2) rfl (by decide) (lv' := [(2, .int (iI (-1))), (1, .int (iI (-1))), (0, .ref e0)]) rfl dX4_readWall_38 ?_
    refine g_iload_n (pc := 39) X 0 rfl dX4_readWall_39 ?_
    refine g_iconst (pc := 40) X (iI (-1)) (by rfl) dX4_readWall_40 ?_
    refine g_icmp_neI (pc := 41) X 48 (by decide) ⟨by decide, by decide⟩ ⟨by decide, by decide⟩ dX4_readWall_41 (fun h => absurd h (by decide)) (fun _ => ?_)
    refine g_iconst (pc := 44) X (iI (-1)) (by rfl) dX4_readWall_44 ?_
    refine g_goto (pc := 45) X 57 (by decide) dX4_readWall_45 ?_
    refine g_istore_n (pc := 57) X (i := 3) rfl (by decide) (lv' := [(3, .int (iI (-1))), (2, .int (iI (-1))), (1, .int (iI (-1))), (0, .ref e0)]) rfl dX4_readWall_57 ?_
    refine g_iload_n (pc := 58) X 0 rfl dX4_readWall_58 ?_
    refine g_iconst (pc := 59) X (iI (-1)) (by rfl) dX4_readWall_59 ?_
    refine g_icmp_eqI (pc := 60) X 72 (by decide) ⟨by decide, by decide⟩ ⟨by decide, by decide⟩ dX4_readWall_60 (fun _ => ?_) (fun h => absurd h (by decide))
    refine g_iconst (pc := 72) X (iI 0) (by rfl) dX4_readWall_72 ?_
    refine g_ws (ws' := [cO_rri e0 4 t0 r0 (to0 + 1), cO_riirrr t0 9 t_bytes ts tk t_kinds t_places t_values, cA Z t_kinds 0 401 Tk, cA Z t_values 0 401 Tv, cO_rirrrrrrirrr r0 6 w0 ro r_doors r_openingWalls r_froms r_tos r_lowers r_uppers rs r_standWalls r_standXs r_standYs, cO_rrrrrrii w0 10 w_begins w_lengths w_lefts w_rights w_leans w_leaning wn wr, cA Z w_begins 0 8 Wb, cA Z w_lengths 0 8 Wl, cA Z w_lefts 0 8 Wh, cA Z w_rights 0 8 Wk, cA Z w_leans 0 8 Wm, cA Z w_leaning 2 8 Wz]) [8, 9, 10, 11, 0, 1, 2, 3, 4, 5, 6, 7] (by decide) rfl ?_
    exact g_zret (pc := 73) X hA (rfl) (⟨Wb, Wl, Wh, Wk, Wm, Wz, (to0 + 1), wn, wr, 0, rfl, rfl, (by omega), (b_wn), (b_wr), (by omega), (h_Wb), (h_Wl), (h_Wh), (h_Wk), (h_Wm), (h_Wz), (by omega), (by omega), (by omega)⟩) (by decide) (by decide) dX4_readWall_73
  · refine exN_2 hp1 fun y2 y3 hz => anD_7 hz fun e_r e_w hf16_b_y hf16_b_to2 hf16_f1 hf16_f2 hf16_f3 => ?_; clear hz hp1; subst e_r; subst e_w
    refine g_as (pc' := 19) (lv' := [(0, .ref e0)]) (st' := [.int (iI y2)]) (ws' := [cO_rirrrrrrirrr r0 6 w0 ro r_doors r_openingWalls r_froms r_tos r_lowers r_uppers rs r_standWalls r_standXs r_standYs, cO_rrrrrrii w0 10 w_begins w_lengths w_lefts w_rights w_leans w_leaning wn wr, cA Z w_begins 0 8 Wb, cA Z w_lengths 0 8 Wl, cA Z w_lefts 0 8 Wh, cA Z w_rights 0 8 Wk, cA Z w_leans 0 8 Wm, cA Z w_leaning 2 8 Wz, cO_rri e0 4 t0 r0 y3, cO_riirrr t0 9 t_bytes ts tk t_kinds t_places t_values, cA Z t_kinds 0 401 Tk, cA Z t_values 0 401 Tv]) rfl rfl rfl rfl ?_
    have tt5 : 50 ≤ y2 ∧ y2 ≤ 600 := by omega
    refine g_istore_n (pc := 19) X (i := 1) rfl (by decide) (lv' := [(1, .int (iI y2)), (0, .ref e0)]) rfl dX4_readWall_19 ?_
    refine g_iload_n (pc := 20) X 0 rfl dX4_readWall_20 ?_
    refine g_iconst (pc := 21) X (iI (-1)) (by rfl) dX4_readWall_21 ?_
    refine g_icmp_neI (pc := 22) X 29 (by decide) (inRb hf16_b_y (by decide) (by decide)) ⟨by decide, by decide⟩ dX4_readWall_22 (fun c22 => ?_) (fun c22 => ?_)
    · refine g_aload_n (pc := 29) X 1 rfl dX4_readWall_29 ?_
      refine g_bipush (pc := 30) X (iI 100) (by decide) dX4_readWall_30 ?_
      refine g_sipush (pc := 32) X (iI 400) (by decide) dX4_readWall_32 ?_
      refine g_callV (pc := 35) X (k_X4_readNumber l Z e0 t0 r0 t_bytes t_kinds t_places t_values Tk Tv 100 400 y3 ts tk (by decide) (by decide) hf16_b_to2 b_ts b_tk (h_Tk) (h_Tv)) iM_X4_readNumber mw_16_22 mw_16_23 mw_17_0 8 rfl rfl [8, 9, 10, 11] [0, 1, 2, 3, 4, 5, 6, 7] rfl (wr := [cO_rirrrrrrirrr r0 6 w0 ro r_doors r_openingWalls r_froms r_tos r_lowers r_uppers rs r_standWalls r_standXs r_standYs, cO_rrrrrrii w0 10 w_begins w_lengths w_lefts w_rights w_leans w_leaning wn wr, cA Z w_begins 0 8 Wb, cA Z w_lengths 0 8 Wl, cA Z w_lefts 0 8 Wh, cA Z w_rights 0 8 Wk, cA Z w_leans 0 8 Wm, cA Z w_leaning 2 8 Wz]) rfl (by decide) rfl rfl (Nat.le_of_ble_eq_true rfl) (by decide) dX4_readWall_35 (fun r w' hpo => ?_)
      rcases hpo with hp0 | hp1
      · obtain ⟨rfl, rfl⟩ := hp0
        refine g_as (pc' := 38) (lv' := [(1, .int (iI y2)), (0, .ref e0)]) (st' := [.int (iI (-1))]) (ws' := [cO_rirrrrrrirrr r0 6 w0 ro r_doors r_openingWalls r_froms r_tos r_lowers r_uppers rs r_standWalls r_standXs r_standYs, cO_rrrrrrii w0 10 w_begins w_lengths w_lefts w_rights w_leans w_leaning wn wr, cA Z w_begins 0 8 Wb, cA Z w_lengths 0 8 Wl, cA Z w_lefts 0 8 Wh, cA Z w_rights 0 8 Wk, cA Z w_leans 0 8 Wm, cA Z w_leaning 2 8 Wz, cO_rri e0 4 t0 r0 y3, cO_riirrr t0 9 t_bytes ts tk t_kinds t_places t_values, cA Z t_kinds 0 401 Tk, cA Z t_values 0 401 Tv]) rfl rfl rfl rfl ?_
        refine g_istore_n (pc := 38) X (i := 2) rfl (by decide) (lv' := [(2, .int (iI (-1))), (1, .int (iI y2)), (0, .ref e0)]) rfl dX4_readWall_38 ?_
        refine g_iload_n (pc := 39) X 0 rfl dX4_readWall_39 ?_
        refine g_iconst (pc := 40) X (iI (-1)) (by rfl) dX4_readWall_40 ?_
        refine g_icmp_neI (pc := 41) X 48 (by decide) ⟨by decide, by decide⟩ ⟨by decide, by decide⟩ dX4_readWall_41 (fun h => absurd h (by decide)) (fun _ => ?_)
        refine g_iconst (pc := 44) X (iI (-1)) (by rfl) dX4_readWall_44 ?_
        refine g_goto (pc := 45) X 57 (by decide) dX4_readWall_45 ?_
        refine g_istore_n (pc := 57) X (i := 3) rfl (by decide) (lv' := [(3, .int (iI (-1))), (2, .int (iI (-1))), (1, .int (iI y2)), (0, .ref e0)]) rfl dX4_readWall_57 ?_
        refine g_iload_n (pc := 58) X 0 rfl dX4_readWall_58 ?_
        refine g_iconst (pc := 59) X (iI (-1)) (by rfl) dX4_readWall_59 ?_
        refine g_icmp_eqI (pc := 60) X 72 (by decide) ⟨by decide, by decide⟩ ⟨by decide, by decide⟩ dX4_readWall_60 (fun _ => ?_) (fun h => absurd h (by decide))
        refine g_iconst (pc := 72) X (iI 0) (by rfl) dX4_readWall_72 ?_
        refine g_ws (ws' := [cO_rri e0 4 t0 r0 y3, cO_riirrr t0 9 t_bytes ts tk t_kinds t_places t_values, cA Z t_kinds 0 401 Tk, cA Z t_values 0 401 Tv, cO_rirrrrrrirrr r0 6 w0 ro r_doors r_openingWalls r_froms r_tos r_lowers r_uppers rs r_standWalls r_standXs r_standYs, cO_rrrrrrii w0 10 w_begins w_lengths w_lefts w_rights w_leans w_leaning wn wr, cA Z w_begins 0 8 Wb, cA Z w_lengths 0 8 Wl, cA Z w_lefts 0 8 Wh, cA Z w_rights 0 8 Wk, cA Z w_leans 0 8 Wm, cA Z w_leaning 2 8 Wz]) [8, 9, 10, 11, 0, 1, 2, 3, 4, 5, 6, 7] (by decide) rfl ?_
        exact g_zret (pc := 73) X hA (rfl) (⟨Wb, Wl, Wh, Wk, Wm, Wz, y3, wn, wr, 0, rfl, rfl, (hf16_b_to2), (b_wn), (b_wr), (by omega), (h_Wb), (h_Wl), (h_Wh), (h_Wk), (h_Wm), (h_Wz), (by omega), (by omega), (by omega)⟩) (by decide) (by decide) dX4_readWall_73
      · refine exN_2 hp1 fun y7 y8 hz => anD_7 hz fun e_r e_w hf35_b_y hf35_b_to2 hf35_f1 hf35_f2 hf35_f3 => ?_; clear hz hp1; subst e_r; subst e_w
        refine g_as (pc' := 38) (lv' := [(1, .int (iI y2)), (0, .ref e0)]) (st' := [.int (iI y7)]) (ws' := [cO_rirrrrrrirrr r0 6 w0 ro r_doors r_openingWalls r_froms r_tos r_lowers r_uppers rs r_standWalls r_standXs r_standYs, cO_rrrrrrii w0 10 w_begins w_lengths w_lefts w_rights w_leans w_leaning wn wr, cA Z w_begins 0 8 Wb, cA Z w_lengths 0 8 Wl, cA Z w_lefts 0 8 Wh, cA Z w_rights 0 8 Wk, cA Z w_leans 0 8 Wm, cA Z w_leaning 2 8 Wz, cO_rri e0 4 t0 r0 y8, cO_riirrr t0 9 t_bytes ts tk t_kinds t_places t_values, cA Z t_kinds 0 401 Tk, cA Z t_values 0 401 Tv]) rfl rfl rfl rfl ?_
        have tt10 : 100 ≤ y7 ∧ y7 ≤ 400 := by omega
        refine g_istore_n (pc := 38) X (i := 2) rfl (by decide) (lv' := [(2, .int (iI y7)), (1, .int (iI y2)), (0, .ref e0)]) rfl dX4_readWall_38 ?_
        refine g_iload_n (pc := 39) X 0 rfl dX4_readWall_39 ?_
        refine g_iconst (pc := 40) X (iI (-1)) (by rfl) dX4_readWall_40 ?_
        refine g_icmp_neI (pc := 41) X 48 (by decide) (inRb hf35_b_y (by decide) (by decide)) ⟨by decide, by decide⟩ dX4_readWall_41 (fun c41 => ?_) (fun c41 => ?_)
        · refine g_aload_n (pc := 48) X 2 rfl dX4_readWall_48 ?_
          refine g_bipush (pc := 49) X (iI 100) (by decide) dX4_readWall_49 ?_
          refine g_sipush (pc := 51) X (iI 400) (by decide) dX4_readWall_51 ?_
          refine g_callV (pc := 54) X (k_X4_readNumber l Z e0 t0 r0 t_bytes t_kinds t_places t_values Tk Tv 100 400 y8 ts tk (by decide) (by decide) hf35_b_to2 b_ts b_tk (h_Tk) (h_Tv)) iM_X4_readNumber mw_16_22 mw_16_23 mw_17_0 8 rfl rfl [8, 9, 10, 11] [0, 1, 2, 3, 4, 5, 6, 7] rfl (wr := [cO_rirrrrrrirrr r0 6 w0 ro r_doors r_openingWalls r_froms r_tos r_lowers r_uppers rs r_standWalls r_standXs r_standYs, cO_rrrrrrii w0 10 w_begins w_lengths w_lefts w_rights w_leans w_leaning wn wr, cA Z w_begins 0 8 Wb, cA Z w_lengths 0 8 Wl, cA Z w_lefts 0 8 Wh, cA Z w_rights 0 8 Wk, cA Z w_leans 0 8 Wm, cA Z w_leaning 2 8 Wz]) rfl (by decide) rfl rfl (Nat.le_of_ble_eq_true rfl) (by decide) dX4_readWall_54 (fun r w' hpo => ?_)
          rcases hpo with hp0 | hp1
          · obtain ⟨rfl, rfl⟩ := hp0
            refine g_as (pc' := 57) (lv' := [(2, .int (iI y7)), (1, .int (iI y2)), (0, .ref e0)]) (st' := [.int (iI (-1))]) (ws' := [cO_rirrrrrrirrr r0 6 w0 ro r_doors r_openingWalls r_froms r_tos r_lowers r_uppers rs r_standWalls r_standXs r_standYs, cO_rrrrrrii w0 10 w_begins w_lengths w_lefts w_rights w_leans w_leaning wn wr, cA Z w_begins 0 8 Wb, cA Z w_lengths 0 8 Wl, cA Z w_lefts 0 8 Wh, cA Z w_rights 0 8 Wk, cA Z w_leans 0 8 Wm, cA Z w_leaning 2 8 Wz, cO_rri e0 4 t0 r0 y8, cO_riirrr t0 9 t_bytes ts tk t_kinds t_places t_values, cA Z t_kinds 0 401 Tk, cA Z t_values 0 401 Tv]) rfl rfl rfl rfl ?_
            refine g_istore_n (pc := 57) X (i := 3) rfl (by decide) (lv' := [(3, .int (iI (-1))), (2, .int (iI y7)), (1, .int (iI y2)), (0, .ref e0)]) rfl dX4_readWall_57 ?_
            refine g_iload_n (pc := 58) X 0 rfl dX4_readWall_58 ?_
            refine g_iconst (pc := 59) X (iI (-1)) (by rfl) dX4_readWall_59 ?_
            refine g_icmp_eqI (pc := 60) X 72 (by decide) ⟨by decide, by decide⟩ ⟨by decide, by decide⟩ dX4_readWall_60 (fun _ => ?_) (fun h => absurd h (by decide))
            refine g_iconst (pc := 72) X (iI 0) (by rfl) dX4_readWall_72 ?_
            refine g_ws (ws' := [cO_rri e0 4 t0 r0 y8, cO_riirrr t0 9 t_bytes ts tk t_kinds t_places t_values, cA Z t_kinds 0 401 Tk, cA Z t_values 0 401 Tv, cO_rirrrrrrirrr r0 6 w0 ro r_doors r_openingWalls r_froms r_tos r_lowers r_uppers rs r_standWalls r_standXs r_standYs, cO_rrrrrrii w0 10 w_begins w_lengths w_lefts w_rights w_leans w_leaning wn wr, cA Z w_begins 0 8 Wb, cA Z w_lengths 0 8 Wl, cA Z w_lefts 0 8 Wh, cA Z w_rights 0 8 Wk, cA Z w_leans 0 8 Wm, cA Z w_leaning 2 8 Wz]) [8, 9, 10, 11, 0, 1, 2, 3, 4, 5, 6, 7] (by decide) rfl ?_
            exact g_zret (pc := 73) X hA (rfl) (⟨Wb, Wl, Wh, Wk, Wm, Wz, y8, wn, wr, 0, rfl, rfl, (hf35_b_to2), (b_wn), (b_wr), (by omega), (h_Wb), (h_Wl), (h_Wh), (h_Wk), (h_Wm), (h_Wz), (by omega), (by omega), (by omega)⟩) (by decide) (by decide) dX4_readWall_73
          · refine exN_2 hp1 fun y12 y13 hz => anD_7 hz fun e_r e_w hf54_b_y hf54_b_to2 hf54_f1 hf54_f2 hf54_f3 => ?_; clear hz hp1; subst e_r; subst e_w
            refine g_as (pc' := 57) (lv' := [(2, .int (iI y7)), (1, .int (iI y2)), (0, .ref e0)]) (st' := [.int (iI y12)]) (ws' := [cO_rirrrrrrirrr r0 6 w0 ro r_doors r_openingWalls r_froms r_tos r_lowers r_uppers rs r_standWalls r_standXs r_standYs, cO_rrrrrrii w0 10 w_begins w_lengths w_lefts w_rights w_leans w_leaning wn wr, cA Z w_begins 0 8 Wb, cA Z w_lengths 0 8 Wl, cA Z w_lefts 0 8 Wh, cA Z w_rights 0 8 Wk, cA Z w_leans 0 8 Wm, cA Z w_leaning 2 8 Wz, cO_rri e0 4 t0 r0 y13, cO_riirrr t0 9 t_bytes ts tk t_kinds t_places t_values, cA Z t_kinds 0 401 Tk, cA Z t_values 0 401 Tv]) rfl rfl rfl rfl ?_
            have tt15 : 100 ≤ y12 ∧ y12 ≤ 400 := by omega
            refine g_istore_n (pc := 57) X (i := 3) rfl (by decide) (lv' := [(3, .int (iI y12)), (2, .int (iI y7)), (1, .int (iI y2)), (0, .ref e0)]) rfl dX4_readWall_57 ?_
            refine g_iload_n (pc := 58) X 0 rfl dX4_readWall_58 ?_
            refine g_iconst (pc := 59) X (iI (-1)) (by rfl) dX4_readWall_59 ?_
            refine g_icmp_eqI (pc := 60) X 72 (by decide) (inRb hf54_b_y (by decide) (by decide)) ⟨by decide, by decide⟩ dX4_readWall_60 (fun c60 => ?_) (fun c60 => ?_)
            · refine g_iconst (pc := 72) X (iI 0) (by rfl) dX4_readWall_72 ?_
              refine g_ws (ws' := [cO_rri e0 4 t0 r0 y13, cO_riirrr t0 9 t_bytes ts tk t_kinds t_places t_values, cA Z t_kinds 0 401 Tk, cA Z t_values 0 401 Tv, cO_rirrrrrrirrr r0 6 w0 ro r_doors r_openingWalls r_froms r_tos r_lowers r_uppers rs r_standWalls r_standXs r_standYs, cO_rrrrrrii w0 10 w_begins w_lengths w_lefts w_rights w_leans w_leaning wn wr, cA Z w_begins 0 8 Wb, cA Z w_lengths 0 8 Wl, cA Z w_lefts 0 8 Wh, cA Z w_rights 0 8 Wk, cA Z w_leans 0 8 Wm, cA Z w_leaning 2 8 Wz]) [8, 9, 10, 11, 0, 1, 2, 3, 4, 5, 6, 7] (by decide) rfl ?_
              exact g_zret (pc := 73) X hA (rfl) (⟨Wb, Wl, Wh, Wk, Wm, Wz, y13, wn, wr, 0, rfl, rfl, (hf54_b_to2), (b_wn), (b_wr), (by omega), (h_Wb), (h_Wl), (h_Wh), (h_Wk), (h_Wm), (h_Wz), (by omega), (by omega), (by omega)⟩) (by decide) (by decide) dX4_readWall_73
            · refine g_aload_n (pc := 63) X 3 rfl dX4_readWall_63 ?_
              refine g_bipush (pc := 64) X (iI 8) (by decide) dX4_readWall_64 ?_
              refine g_callV (pc := 66) X (k_X4_readSign l Z e0 t0 r0 t_bytes t_kinds t_places t_values Tk 8 y13 ts tk (by decide) hf54_b_to2 b_ts b_tk (h_Tk)) iM_X4_readSign mw_17_3 mw_17_4 mw_17_5 8 rfl rfl [8, 9, 10] [0, 1, 2, 3, 4, 5, 6, 7, 11] rfl (wr := [cO_rirrrrrrirrr r0 6 w0 ro r_doors r_openingWalls r_froms r_tos r_lowers r_uppers rs r_standWalls r_standXs r_standYs, cO_rrrrrrii w0 10 w_begins w_lengths w_lefts w_rights w_leans w_leaning wn wr, cA Z w_begins 0 8 Wb, cA Z w_lengths 0 8 Wl, cA Z w_lefts 0 8 Wh, cA Z w_rights 0 8 Wk, cA Z w_leans 0 8 Wm, cA Z w_leaning 2 8 Wz, cA Z t_values 0 401 Tv]) rfl (by decide) rfl rfl (Nat.le_of_ble_eq_true rfl) (by decide) dX4_readWall_66 (fun r w' hpo => ?_)
              rcases hpo with hp0 | hp1
              · obtain ⟨rfl, rfl⟩ := hp0
                refine g_as (pc' := 69) (lv' := [(3, .int (iI y12)), (2, .int (iI y7)), (1, .int (iI y2)), (0, .ref e0)]) (st' := [.int (iI 0)]) (ws' := [cO_rirrrrrrirrr r0 6 w0 ro r_doors r_openingWalls r_froms r_tos r_lowers r_uppers rs r_standWalls r_standXs r_standYs, cO_rrrrrrii w0 10 w_begins w_lengths w_lefts w_rights w_leans w_leaning wn wr, cA Z w_begins 0 8 Wb, cA Z w_lengths 0 8 Wl, cA Z w_lefts 0 8 Wh, cA Z w_rights 0 8 Wk, cA Z w_leans 0 8 Wm, cA Z w_leaning 2 8 Wz, cA Z t_values 0 401 Tv, cO_rri e0 4 t0 r0 y13, cO_riirrr t0 9 t_bytes ts tk t_kinds t_places t_values, cA Z t_kinds 0 401 Tk]) rfl rfl rfl rfl ?_
                refine g_if_neI (pc := 69) X 74 (by decide) ⟨by decide, by decide⟩ dX4_readWall_69 (fun h => absurd h (by decide)) (fun _ => ?_)
                refine g_iconst (pc := 72) X (iI 0) (by rfl) dX4_readWall_72 ?_
                refine g_ws (ws' := [cO_rri e0 4 t0 r0 y13, cO_riirrr t0 9 t_bytes ts tk t_kinds t_places t_values, cA Z t_kinds 0 401 Tk, cA Z t_values 0 401 Tv, cO_rirrrrrrirrr r0 6 w0 ro r_doors r_openingWalls r_froms r_tos r_lowers r_uppers rs r_standWalls r_standXs r_standYs, cO_rrrrrrii w0 10 w_begins w_lengths w_lefts w_rights w_leans w_leaning wn wr, cA Z w_begins 0 8 Wb, cA Z w_lengths 0 8 Wl, cA Z w_lefts 0 8 Wh, cA Z w_rights 0 8 Wk, cA Z w_leans 0 8 Wm, cA Z w_leaning 2 8 Wz]) [9, 10, 11, 8, 0, 1, 2, 3, 4, 5, 6, 7] (by decide) rfl ?_
                exact g_zret (pc := 73) X hA (rfl) (⟨Wb, Wl, Wh, Wk, Wm, Wz, y13, wn, wr, 0, rfl, rfl, (hf54_b_to2), (b_wn), (b_wr), (by omega), (h_Wb), (h_Wl), (h_Wh), (h_Wk), (h_Wm), (h_Wz), (by omega), (by omega), (by omega)⟩) (by decide) (by decide) dX4_readWall_73
              · refine exN_1 hp1 fun y17 hz => anD_5 hz fun e_r e_w hf66_b_to2 hf66_f2 hf66_f3 => ?_; clear hz hp1; subst e_r; subst e_w
                refine g_as (pc' := 69) (lv' := [(3, .int (iI y12)), (2, .int (iI y7)), (1, .int (iI y2)), (0, .ref e0)]) (st' := [.int (iI 1)]) (ws' := [cO_rirrrrrrirrr r0 6 w0 ro r_doors r_openingWalls r_froms r_tos r_lowers r_uppers rs r_standWalls r_standXs r_standYs, cO_rrrrrrii w0 10 w_begins w_lengths w_lefts w_rights w_leans w_leaning wn wr, cA Z w_begins 0 8 Wb, cA Z w_lengths 0 8 Wl, cA Z w_lefts 0 8 Wh, cA Z w_rights 0 8 Wk, cA Z w_leans 0 8 Wm, cA Z w_leaning 2 8 Wz, cA Z t_values 0 401 Tv, cO_rri e0 4 t0 r0 y17, cO_riirrr t0 9 t_bytes ts tk t_kinds t_places t_values, cA Z t_kinds 0 401 Tk]) rfl rfl rfl rfl ?_
                refine g_if_neI (pc := 69) X 74 (by decide) ⟨by decide, by decide⟩ dX4_readWall_69 (fun _ => ?_) (fun h => absurd h (by decide))
                refine g_aload_n (pc := 74) X 3 rfl dX4_readWall_74 ?_
                refine g_get (pc := 75) X inlX4 9 rfl rfl 1 (by decide) mw_12_1 rfl dX4_readWall_75 ?_
                refine g_get (pc := 78) X inlX6 0 rfl rfl 0 (by decide) mw_12_2 rfl dX4_readWall_78 ?_
                refine g_iload_n (pc := 81) X 2 rfl dX4_readWall_81 ?_
                refine g_iload_n (pc := 82) X 1 rfl dX4_readWall_82 ?_
                refine g_iload_n (pc := 83) X 0 rfl dX4_readWall_83 ?_
                refine g_callV (pc := 84) X (k_X10_add l Z w0 w_begins w_lengths w_lefts w_rights w_leans w_leaning Wb Wl Wh Wk Wm Wz y2 y7 y12 wn wr (by omega) (by omega) (by omega) b_wn b_wr (by omega) (h_Wb) (h_Wl) (h_Wh) (h_Wk) (h_Wm) (h_Wz)) iM_X10_add mw_17_7 mw_17_8 mw_17_9 1 rfl rfl [1, 2, 3, 4, 5, 6, 7] [0, 8, 9, 10, 11] rfl (wr := [cO_rirrrrrrirrr r0 6 w0 ro r_doors r_openingWalls r_froms r_tos r_lowers r_uppers rs r_standWalls r_standXs r_standYs, cA Z t_values 0 401 Tv, cO_rri e0 4 t0 r0 y17, cO_riirrr t0 9 t_bytes ts tk t_kinds t_places t_values, cA Z t_kinds 0 401 Tk]) rfl (by decide) rfl rfl (Nat.le_of_ble_eq_true rfl) (by decide) dX4_readWall_84 (fun r w' hpo => ?_)
                refine exN_8 hpo fun F19 F20 F21 F22 F23 F24 y25 y26 hz => anD_15 hz fun e_r e_w hf84_b_wn2 hf84_b_wr2 hf84_h_Wb2 hf84_h_Wl2 hf84_h_Wh2 hf84_h_Wk2 hf84_h_Wm2 hf84_h_Wz2 hf84_hr2 hf84_f1 hf84_f2 hf84_f3 hf84_f4 => ?_; clear hz hpo; subst e_r; subst e_w
                refine g_as (pc' := 87) (lv' := [(3, .int (iI y12)), (2, .int (iI y7)), (1, .int (iI y2)), (0, .ref e0)]) (st' := []) (ws' := [cO_rirrrrrrirrr r0 6 w0 ro r_doors r_openingWalls r_froms r_tos r_lowers r_uppers rs r_standWalls r_standXs r_standYs, cA Z t_values 0 401 Tv, cO_rri e0 4 t0 r0 y17, cO_riirrr t0 9 t_bytes ts tk t_kinds t_places t_values, cA Z t_kinds 0 401 Tk, cO_rrrrrrii w0 10 w_begins w_lengths w_lefts w_rights w_leans w_leaning y25 y26, cA Z w_begins 0 8 F19, cA Z w_lengths 0 8 F20, cA Z w_lefts 0 8 F21, cA Z w_rights 0 8 F22, cA Z w_leans 0 8 F23, cA Z w_leaning 2 8 F24]) rfl rfl rfl rfl ?_
                refine g_iconst (pc := 87) X (iI 1) (by rfl) dX4_readWall_87 ?_
                refine g_ws (ws' := [cO_rri e0 4 t0 r0 y17, cO_riirrr t0 9 t_bytes ts tk t_kinds t_places t_values, cA Z t_kinds 0 401 Tk, cA Z t_values 0 401 Tv, cO_rirrrrrrirrr r0 6 w0 ro r_doors r_openingWalls r_froms r_tos r_lowers r_uppers rs r_standWalls r_standXs r_standYs, cO_rrrrrrii w0 10 w_begins w_lengths w_lefts w_rights w_leans w_leaning y25 y26, cA Z w_begins 0 8 F19, cA Z w_lengths 0 8 F20, cA Z w_lefts 0 8 F21, cA Z w_rights 0 8 F22, cA Z w_leans 0 8 F23, cA Z w_leaning 2 8 F24]) [2, 3, 4, 1, 0, 5, 6, 7, 8, 9, 10, 11] (by decide) rfl ?_
                exact g_zret (pc := 88) X hA (rfl) (⟨F19, F20, F21, F22, F23, F24, y17, y25, y26, 1, rfl, rfl, (hf66_b_to2), (hf84_b_wn2), (hf84_b_wr2), (by omega), (hf84_h_Wb2), (hf84_h_Wl2), (hf84_h_Wh2), (hf84_h_Wk2), (hf84_h_Wm2), (hf84_h_Wz2), (by omega), (by omega), (by omega)⟩) (by decide) (by decide) dX4_readWall_88
        · refine g_iconst (pc := 44) X (iI (-1)) (by rfl) dX4_readWall_44 ?_
          refine g_goto (pc := 45) X 57 (by decide) dX4_readWall_45 ?_
          refine g_istore_n (pc := 57) X (i := 3) rfl (by decide) (lv' := [(3, .int (iI (-1))), (2, .int (iI y7)), (1, .int (iI y2)), (0, .ref e0)]) rfl dX4_readWall_57 ?_
          refine g_iload_n (pc := 58) X 0 rfl dX4_readWall_58 ?_
          refine g_iconst (pc := 59) X (iI (-1)) (by rfl) dX4_readWall_59 ?_
          refine g_icmp_eqI (pc := 60) X 72 (by decide) ⟨by decide, by decide⟩ ⟨by decide, by decide⟩ dX4_readWall_60 (fun _ => ?_) (fun h => absurd h (by decide))
          refine g_iconst (pc := 72) X (iI 0) (by rfl) dX4_readWall_72 ?_
          refine g_ws (ws' := [cO_rri e0 4 t0 r0 y8, cO_riirrr t0 9 t_bytes ts tk t_kinds t_places t_values, cA Z t_kinds 0 401 Tk, cA Z t_values 0 401 Tv, cO_rirrrrrrirrr r0 6 w0 ro r_doors r_openingWalls r_froms r_tos r_lowers r_uppers rs r_standWalls r_standXs r_standYs, cO_rrrrrrii w0 10 w_begins w_lengths w_lefts w_rights w_leans w_leaning wn wr, cA Z w_begins 0 8 Wb, cA Z w_lengths 0 8 Wl, cA Z w_lefts 0 8 Wh, cA Z w_rights 0 8 Wk, cA Z w_leans 0 8 Wm, cA Z w_leaning 2 8 Wz]) [8, 9, 10, 11, 0, 1, 2, 3, 4, 5, 6, 7] (by decide) rfl ?_
          exact g_zret (pc := 73) X hA (rfl) (⟨Wb, Wl, Wh, Wk, Wm, Wz, y8, wn, wr, 0, rfl, rfl, (hf35_b_to2), (b_wn), (b_wr), (by omega), (h_Wb), (h_Wl), (h_Wh), (h_Wk), (h_Wm), (h_Wz), (by omega), (by omega), (by omega)⟩) (by decide) (by decide) dX4_readWall_73
    · refine g_iconst (pc := 25) X (iI (-1)) (by rfl) dX4_readWall_25 ?_
      refine g_goto (pc := 26) X 38 (by decide) dX4_readWall_26 ?_
      refine g_istore_n (pc := 38) X (i := 2) rfl (by decide) (lv' := [(2, .int (iI (-1))), (1, .int (iI y2)), (0, .ref e0)]) rfl dX4_readWall_38 ?_
      refine g_iload_n (pc := 39) X 0 rfl dX4_readWall_39 ?_
      refine g_iconst (pc := 40) X (iI (-1)) (by rfl) dX4_readWall_40 ?_
      refine g_icmp_neI (pc := 41) X 48 (by decide) ⟨by decide, by decide⟩ ⟨by decide, by decide⟩ dX4_readWall_41 (fun h => absurd h (by decide)) (fun _ => ?_)
      refine g_iconst (pc := 44) X (iI (-1)) (by rfl) dX4_readWall_44 ?_
      refine g_goto (pc := 45) X 57 (by decide) dX4_readWall_45 ?_
      refine g_istore_n (pc := 57) X (i := 3) rfl (by decide) (lv' := [(3, .int (iI (-1))), (2, .int (iI (-1))), (1, .int (iI y2)), (0, .ref e0)]) rfl dX4_readWall_57 ?_
      refine g_iload_n (pc := 58) X 0 rfl dX4_readWall_58 ?_
      refine g_iconst (pc := 59) X (iI (-1)) (by rfl) dX4_readWall_59 ?_
      refine g_icmp_eqI (pc := 60) X 72 (by decide) ⟨by decide, by decide⟩ ⟨by decide, by decide⟩ dX4_readWall_60 (fun _ => ?_) (fun h => absurd h (by decide))
      refine g_iconst (pc := 72) X (iI 0) (by rfl) dX4_readWall_72 ?_
      refine g_ws (ws' := [cO_rri e0 4 t0 r0 y3, cO_riirrr t0 9 t_bytes ts tk t_kinds t_places t_values, cA Z t_kinds 0 401 Tk, cA Z t_values 0 401 Tv, cO_rirrrrrrirrr r0 6 w0 ro r_doors r_openingWalls r_froms r_tos r_lowers r_uppers rs r_standWalls r_standXs r_standYs, cO_rrrrrrii w0 10 w_begins w_lengths w_lefts w_rights w_leans w_leaning wn wr, cA Z w_begins 0 8 Wb, cA Z w_lengths 0 8 Wl, cA Z w_lefts 0 8 Wh, cA Z w_rights 0 8 Wk, cA Z w_leans 0 8 Wm, cA Z w_leaning 2 8 Wz]) [8, 9, 10, 11, 0, 1, 2, 3, 4, 5, 6, 7] (by decide) rfl ?_
      exact g_zret (pc := 73) X hA (rfl) (⟨Wb, Wl, Wh, Wk, Wm, Wz, y3, wn, wr, 0, rfl, rfl, (hf16_b_to2), (b_wn), (b_wr), (by omega), (h_Wb), (h_Wl), (h_Wh), (h_Wk), (h_Wm), (h_Wz), (by omega), (by omega), (by omega)⟩) (by decide) (by decide) dX4_readWall_73

set_option maxHeartbeats 4000000 in
set_option maxRecDepth 100000 in
theorem k_X4_readDoor (l : Launch) (Z : gZ) (e0 : Nat) (t0 : Nat) (r0 : Nat) (t_bytes : Nat) (t_kinds : Nat) (t_places : Nat) (t_values : Nat) (w0 : Nat) (r_doors : Nat) (r_openingWalls : Nat) (r_froms : Nat) (r_tos : Nat) (r_lowers : Nat) (r_uppers : Nat) (r_standWalls : Nat) (r_standXs : Nat) (r_standYs : Nat) (w_begins : Nat) (w_lengths : Nat) (w_lefts : Nat) (w_rights : Nat) (w_leans : Nat) (w_leaning : Nat) (Tk : Nat → Int) (Tv : Nat → Int) (Wl : Nat → Int) (Wh : Nat → Int) (Wk : Nat → Int) (Rd : Nat → Int) (Rw : Nat → Int) (Rf : Nat → Int) (Rt : Nat → Int) (Rl : Nat → Int) (Ru : Nat → Int) (to0 : Int) (ts : Int) (tk : Int) (ro : Int) (rs : Int) (wn : Int) (wr : Int) (b_to0 : 0 ≤ to0 ∧ to0 ≤ 401) (b_ts : 0 ≤ ts ∧ ts ≤ 400) (b_tk : 0 ≤ tk ∧ tk ≤ 401) (b_ro : 0 ≤ ro ∧ ro ≤ 8) (b_rs : 0 ≤ rs ∧ rs ≤ 4) (b_wn : 0 ≤ wn ∧ wn ≤ 8) (b_wr : 0 ≤ wr ∧ wr ≤ 4800) (hn : to0 < tk) (h_Tk : ∀ j, j < 401 → 0 ≤ Tk j ∧ Tk j ≤ 10) (h_Tv : ∀ j, j < 401 → 0 ≤ Tv j ∧ Tv j ≤ 100000) (h_Wl : ∀ j, j < 8 → 0 ≤ Wl j ∧ Wl j ≤ 600) (h_Wh : ∀ j, j < 8 → 0 ≤ Wh j ∧ Wh j ≤ 400) (h_Wk : ∀ j, j < 8 → 0 ≤ Wk j ∧ Wk j ≤ 400) (h_Rd : ∀ j, j < 8 → 0 ≤ Rd j ∧ Rd j ≤ 1) (h_Rw : ∀ j, j < 8 → 0 ≤ Rw j ∧ Rw j ≤ 7) (h_Rf : ∀ j, j < 8 → 0 ≤ Rf j ∧ Rf j ≤ 600) (h_Rt : ∀ j, j < 8 → 0 ≤ Rt j ∧ Rt j ≤ 600) (h_Rl : ∀ j, j < 8 → 0 ≤ Rl j ∧ Rl j ≤ 400) (h_Ru : ∀ j, j < 8 → 0 ≤ Ru j ∧ Ru j ≤ 400) : Con l Z yX4_readDoor cX4_readDoor 5 (some .boolean) 2 45 0 0 [.ref e0] [cO_rri e0 4 t0 r0 to0, cO_riirrr t0 9 t_bytes ts tk t_kinds t_places t_values, cA Z t_kinds 0 401 Tk, cA Z t_values 0 401 Tv, cO_rirrrrrrirrr r0 6 w0 ro r_doors r_openingWalls r_froms r_tos r_lowers r_uppers rs r_standWalls r_standXs r_standYs, cO_rrrrrrii w0 10 w_begins w_lengths w_lefts w_rights w_leans w_leaning wn wr, cA Z w_lengths 0 8 Wl, cA Z w_lefts 0 8 Wh, cA Z w_rights 0 8 Wk, cA Z r_doors 2 8 Rd, cA Z r_openingWalls 0 8 Rw, cA Z r_froms 0 8 Rf, cA Z r_tos 0 8 Rt, cA Z r_lowers 0 8 Rl, cA Z r_uppers 0 8 Ru] (fun r w' => ∃ (Rd2 : Nat → Int) (Rw2 : Nat → Int) (Rf2 : Nat → Int) (Rt2 : Nat → Int) (Rl2 : Nat → Int) (Ru2 : Nat → Int) (to2 : Int) (ro2 : Int) (y : Int), (r = some (.int (iI y))) ∧ (w' = [cO_rri e0 4 t0 r0 to2, cO_riirrr t0 9 t_bytes ts tk t_kinds t_places t_values, cA Z t_kinds 0 401 Tk, cA Z t_values 0 401 Tv, cO_rirrrrrrirrr r0 6 w0 ro2 r_doors r_openingWalls r_froms r_tos r_lowers r_uppers rs r_standWalls r_standXs r_standYs, cO_rrrrrrii w0 10 w_begins w_lengths w_lefts w_rights w_leans w_leaning wn wr, cA Z w_lengths 0 8 Wl, cA Z w_lefts 0 8 Wh, cA Z w_rights 0 8 Wk, cA Z r_doors 2 8 Rd2, cA Z r_openingWalls 0 8 Rw2, cA Z r_froms 0 8 Rf2, cA Z r_tos 0 8 Rt2, cA Z r_lowers 0 8 Rl2, cA Z r_uppers 0 8 Ru2]) ∧ (0 ≤ to2 ∧ to2 ≤ 401) ∧ (0 ≤ ro2 ∧ ro2 ≤ 8) ∧ (0 ≤ y ∧ y ≤ 1) ∧ (∀ j, j < 8 → 0 ≤ Rd2 j ∧ Rd2 j ≤ 1) ∧ (∀ j, j < 8 → 0 ≤ Rw2 j ∧ Rw2 j ≤ 7) ∧ (∀ j, j < 8 → 0 ≤ Rf2 j ∧ Rf2 j ≤ 600) ∧ (∀ j, j < 8 → 0 ≤ Rt2 j ∧ Rt2 j ≤ 600) ∧ (∀ j, j < 8 → 0 ≤ Rl2 j ∧ Rl2 j ≤ 400) ∧ (∀ j, j < 8 → 0 ≤ Ru2 j ∧ Ru2 j ≤ 400) ∧ (to2 ≤ tk) ∧ (to0 < to2)) := by
  refine enter (by decide) (Nat.le_of_ble_eq_true rfl) ?_
  intro p e s m args below meth c A X hnm hA
  have X : Cx p s m args meth c cX4_readDoor 5 (some .boolean) RX4 Z A := X
  refine g_as (pc' := 0) (lv' := [(0, .ref e0)]) (st' := []) (ws' := [cO_rri e0 4 t0 r0 to0, cO_riirrr t0 9 t_bytes ts tk t_kinds t_places t_values, cA Z t_kinds 0 401 Tk, cA Z t_values 0 401 Tv, cO_rirrrrrrirrr r0 6 w0 ro r_doors r_openingWalls r_froms r_tos r_lowers r_uppers rs r_standWalls r_standXs r_standYs, cO_rrrrrrii w0 10 w_begins w_lengths w_lefts w_rights w_leans w_leaning wn wr, cA Z w_lengths 0 8 Wl, cA Z w_lefts 0 8 Wh, cA Z w_rights 0 8 Wk, cA Z r_doors 2 8 Rd, cA Z r_openingWalls 0 8 Rw, cA Z r_froms 0 8 Rf, cA Z r_tos 0 8 Rt, cA Z r_lowers 0 8 Rl, cA Z r_uppers 0 8 Ru]) rfl rfl rfl rfl ?_
  refine g_aload_n (pc := 0) X 0 rfl dX4_readDoor_0 ?_
  refine g_dup (pc := 1) X rfl dX4_readDoor_1 ?_
  refine g_get (pc := 2) X inlX4 0 rfl rfl 2 (by decide) mw_12_0 rfl dX4_readDoor_2 ?_
  refine g_iconst (pc := 5) X (iI 1) (by rfl) dX4_readDoor_5 ?_
  refine g_iaddI (pc := 6) X dX4_readDoor_6 ?_
  refine g_put (pc := 7) X inlX4 tyX4_ok nmX4 0 rfl rfl 2 (by decide) mw_12_0 rfl rfl rfl (Nat.le_of_ble_eq_true rfl) (ws' := [cO_rri e0 4 t0 r0 (to0 + 1), cO_riirrr t0 9 t_bytes ts tk t_kinds t_places t_values, cA Z t_kinds 0 401 Tk, cA Z t_values 0 401 Tv, cO_rirrrrrrirrr r0 6 w0 ro r_doors r_openingWalls r_froms r_tos r_lowers r_uppers rs r_standWalls r_standXs r_standYs, cO_rrrrrrii w0 10 w_begins w_lengths w_lefts w_rights w_leans w_leaning wn wr, cA Z w_lengths 0 8 Wl, cA Z w_lefts 0 8 Wh, cA Z w_rights 0 8 Wk, cA Z r_doors 2 8 Rd, cA Z r_openingWalls 0 8 Rw, cA Z r_froms 0 8 Rf, cA Z r_tos 0 8 Rt, cA Z r_lowers 0 8 Rl, cA Z r_uppers 0 8 Ru]) rfl dX4_readDoor_7 ?_
  refine g_aload_n (pc := 10) X 0 rfl dX4_readDoor_10 ?_
  refine g_iconst (pc := 11) X (iI 0) (by rfl) dX4_readDoor_11 ?_
  refine g_aload_n (pc := 12) X 0 rfl dX4_readDoor_12 ?_
  refine g_get (pc := 13) X inlX4 0 rfl rfl 1 (by decide) mw_12_1 rfl dX4_readDoor_13 ?_
  refine g_get (pc := 16) X inlX6 4 rfl rfl 0 (by decide) mw_12_2 rfl dX4_readDoor_16 ?_
  refine g_get (pc := 19) X inlX10 5 rfl rfl 6 (by decide) mw_12_3 rfl dX4_readDoor_19 ?_
  refine g_iconst (pc := 22) X (iI 1) (by rfl) dX4_readDoor_22 ?_
  refine g_isubI (pc := 23) X dX4_readDoor_23 ?_
  refine g_callV (pc := 24) X (k_X4_readNumber l Z e0 t0 r0 t_bytes t_kinds t_places t_values Tk Tv 0 (wn - 1) (to0 + 1) ts tk (by decide) (by (first | (clear b_ts b_ro b_rs b_wr; omega) | omega)) (by (first | (clear b_ts b_ro b_rs b_wr; omega) | omega)) b_ts b_tk (h_Tk) (h_Tv)) iM_X4_readNumber mw_16_22 mw_16_23 mw_17_0 0 rfl rfl [0, 1, 2, 3] [4, 5, 6, 7, 8, 9, 10, 11, 12, 13, 14] rfl (wr := [cO_rirrrrrrirrr r0 6 w0 ro r_doors r_openingWalls r_froms r_tos r_lowers r_uppers rs r_standWalls r_standXs r_standYs, cO_rrrrrrii w0 10 w_begins w_lengths w_lefts w_rights w_leans w_leaning wn wr, cA Z w_lengths 0 8 Wl, cA Z w_lefts 0 8 Wh, cA Z w_rights 0 8 Wk, cA Z r_doors 2 8 Rd, cA Z r_openingWalls 0 8 Rw, cA Z r_froms 0 8 Rf, cA Z r_tos 0 8 Rt, cA Z r_lowers 0 8 Rl, cA Z r_uppers 0 8 Ru]) rfl (by decide) rfl rfl (Nat.le_of_ble_eq_true rfl) (by decide) dX4_readDoor_24 (fun r w' hpo => ?_)
  rcases hpo with hp0 | hp1
  · obtain ⟨rfl, rfl⟩ := hp0
    refine g_as (pc' := 27) (lv' := [(0, .ref e0)]) (st' := [.int (iI (-1))]) (ws' := [cO_rirrrrrrirrr r0 6 w0 ro r_doors r_openingWalls r_froms r_tos r_lowers r_uppers rs r_standWalls r_standXs r_standYs, cO_rrrrrrii w0 10 w_begins w_lengths w_lefts w_rights w_leans w_leaning wn wr, cA Z w_lengths 0 8 Wl, cA Z w_lefts 0 8 Wh, cA Z w_rights 0 8 Wk, cA Z r_doors 2 8 Rd, cA Z r_openingWalls 0 8 Rw, cA Z r_froms 0 8 Rf, cA Z r_tos 0 8 Rt, cA Z r_lowers 0 8 Rl, cA Z r_uppers 0 8 Ru, cO_rri e0 4 t0 r0 (to0 + 1), cO_riirrr t0 9 t_bytes ts tk t_kinds t_places t_values, cA Z t_kinds 0 401 Tk, cA Z t_values 0 401 Tv]) rfl rfl rfl rfl ?_
    refine g_istore_n (pc := 27) X (i := 1) rfl (by decide) (lv' := [(1, .int (iI (-1))), (0, .ref e0)]) rfl dX4_readDoor_27 ?_
    refine g_iload_n (pc := 28) X 0 rfl dX4_readDoor_28 ?_
    refine g_iconst (pc := 29) X (iI (-1)) (by rfl) dX4_readDoor_29 ?_
    refine g_icmp_neI (pc := 30) X 37 (by decide) ⟨by decide, by decide⟩ ⟨by decide, by decide⟩ dX4_readDoor_30 (fun h => absurd h (by decide)) (fun _ => ?_)
    refine g_iconst (pc := 33) X (iI (-1)) (by rfl) dX4_readDoor_33 ?_
    refine g_goto (pc := 34) X 53 (by decide) dX4_readDoor_34 ?_
    refine g_istore_n (pc := 53) X (i := 2) rfl (by decide) (lv' := [(2, .int (iI (-1))), (1, .int (iI (-1))), (0, .ref e0)]) rfl dX4_readDoor_53 ?_
    refine g_iload_n (pc := 54) X 0 rfl dX4_readDoor_54 ?_
    refine g_iconst (pc := 55) X (iI (-1)) (by rfl) dX4_readDoor_55 ?_
    refine g_icmp_neI (pc := 56) X 63 (by decide) ⟨by decide, by decide⟩ ⟨by decide, by decide⟩ dX4_readDoor_56 (fun h => absurd h (by decide)) (fun _ => ?_)
    refine g_iconst (pc := 59) X (iI (-1)) (by rfl) dX4_readDoor_59 ?_
    refine g_goto (pc := 60) X 81 (by decide) dX4_readDoor_60 ?_
    refine g_istore_n (pc := 81) X (i := 3) rfl (by decide) (lv' := [(3, .int (iI (-1))), (2, .int (iI (-1))), (1, .int (iI (-1))), (0, .ref e0)]) rfl dX4_readDoor_81 ?_
    refine g_iload_n (pc := 82) X 0 rfl dX4_readDoor_82 ?_
    refine g_iconst (pc := 83) X (iI (-1)) (by rfl) dX4_readDoor_83 ?_
    refine g_icmp_neI (pc := 84) X 91 (by decide) ⟨by decide, by decide⟩ ⟨by decide, by decide⟩ dX4_readDoor_84 (fun h => absurd h (by decide)) (fun _ => ?_)
    refine g_iconst (pc := 87) X (iI (-1)) (by rfl) dX4_readDoor_87 ?_
    refine g_goto (pc := 88) X 110 (by decide) dX4_readDoor_88 ?_
    refine g_istore (pc := 110) X (by decide) (lv' := [(4, .int (iI (-1))), (3, .int (iI (-1))), (2, .int (iI (-1))), (1, .int (iI (-1))), (0, .ref e0)]) rfl dX4_readDoor_110 ?_
    refine g_iload (pc := 112) X 0 rfl dX4_readDoor_112 ?_
    refine g_iconst (pc := 114) X (iI (-1)) (by rfl) dX4_readDoor_114 ?_
    refine g_icmp_eqI (pc := 115) X 127 (by decide) ⟨by decide, by decide⟩ ⟨by decide, by decide⟩ dX4_readDoor_115 (fun _ => ?_) (fun h => absurd h (by decide))
    refine g_iconst (pc := 127) X (iI 0) (by rfl) dX4_readDoor_127 ?_
    refine g_ws (ws' := [cO_rri e0 4 t0 r0 (to0 + 1), cO_riirrr t0 9 t_bytes ts tk t_kinds t_places t_values, cA Z t_kinds 0 401 Tk, cA Z t_values 0 401 Tv, cO_rirrrrrrirrr r0 6 w0 ro r_doors r_openingWalls r_froms r_tos r_lowers r_uppers rs r_standWalls r_standXs r_standYs, cO_rrrrrrii w0 10 w_begins w_lengths w_lefts w_rights w_leans w_leaning wn wr, cA Z w_lengths 0 8 Wl, cA Z w_lefts 0 8 Wh, cA Z w_rights 0 8 Wk, cA Z r_doors 2 8 Rd, cA Z r_openingWalls 0 8 Rw, cA Z r_froms 0 8 Rf, cA Z r_tos 0 8 Rt, cA Z r_lowers 0 8 Rl, cA Z r_uppers 0 8 Ru]) [11, 12, 13, 14, 0, 1, 2, 3, 4, 5, 6, 7, 8, 9, 10] (by decide) rfl ?_
    exact g_zret (pc := 128) X hA (rfl) (⟨Rd, Rw, Rf, Rt, Rl, Ru, (to0 + 1), ro, 0, rfl, rfl, (by (first | (clear b_ts b_ro b_rs b_wr; omega) | omega)), (b_ro), (by (first | (clear b_ts b_ro b_rs b_wr; omega) | omega)), (h_Rd), (h_Rw), (h_Rf), (h_Rt), (h_Rl), (h_Ru), (by (first | (clear b_ts b_ro b_rs b_wr; omega) | omega)), (by (first | (clear b_ts b_ro b_rs b_wr; omega) | omega))⟩) (by decide) (by decide) dX4_readDoor_128
  · refine exN_2 hp1 fun y2 y3 hz => anD_7 hz fun e_r e_w hf24_b_y hf24_b_to2 hf24_f1 hf24_f2 hf24_f3 => ?_; clear hz hp1; subst e_r; subst e_w
    refine g_as (pc' := 27) (lv' := [(0, .ref e0)]) (st' := [.int (iI y2)]) (ws' := [cO_rirrrrrrirrr r0 6 w0 ro r_doors r_openingWalls r_froms r_tos r_lowers r_uppers rs r_standWalls r_standXs r_standYs, cO_rrrrrrii w0 10 w_begins w_lengths w_lefts w_rights w_leans w_leaning wn wr, cA Z w_lengths 0 8 Wl, cA Z w_lefts 0 8 Wh, cA Z w_rights 0 8 Wk, cA Z r_doors 2 8 Rd, cA Z r_openingWalls 0 8 Rw, cA Z r_froms 0 8 Rf, cA Z r_tos 0 8 Rt, cA Z r_lowers 0 8 Rl, cA Z r_uppers 0 8 Ru, cO_rri e0 4 t0 r0 y3, cO_riirrr t0 9 t_bytes ts tk t_kinds t_places t_values, cA Z t_kinds 0 401 Tk, cA Z t_values 0 401 Tv]) rfl rfl rfl rfl ?_
    have tt5 : 0 ≤ y2 ∧ y2 ≤ 7 := by (first | (clear b_ts b_ro b_rs b_wr; omega) | omega)
    refine g_istore_n (pc := 27) X (i := 1) rfl (by decide) (lv' := [(1, .int (iI y2)), (0, .ref e0)]) rfl dX4_readDoor_27 ?_
    refine g_iload_n (pc := 28) X 0 rfl dX4_readDoor_28 ?_
    refine g_iconst (pc := 29) X (iI (-1)) (by rfl) dX4_readDoor_29 ?_
    refine g_icmp_neI (pc := 30) X 37 (by decide) (inRb hf24_b_y (by decide) (by decide)) ⟨by decide, by decide⟩ dX4_readDoor_30 (fun c30 => ?_) (fun c30 => ?_)
    · refine g_aload_n (pc := 37) X 1 rfl dX4_readDoor_37 ?_
      refine g_iconst (pc := 38) X (iI 0) (by rfl) dX4_readDoor_38 ?_
      refine g_aload_n (pc := 39) X 1 rfl dX4_readDoor_39 ?_
      refine g_get (pc := 40) X inlX4 11 rfl rfl 1 (by decide) mw_12_1 rfl dX4_readDoor_40 ?_
      refine g_get (pc := 43) X inlX6 0 rfl rfl 0 (by decide) mw_12_2 rfl dX4_readDoor_43 ?_
      refine g_iload_n (pc := 46) X 0 rfl dX4_readDoor_46 ?_
      refine g_callV (pc := 47) X (k_X10_lengthOf l Z w0 w_begins w_lengths w_lefts w_rights w_leans w_leaning Wl y2 wn wr (by (first | (clear b_ts b_ro b_rs b_wr; omega) | omega)) b_wn b_wr (h_Wl)) iM_X10_lengthOf mw_17_15 mw_17_16 mw_17_17 1 rfl rfl [1, 2] [0, 3, 4, 5, 6, 7, 8, 9, 10, 11, 12, 13, 14] rfl (wr := [cO_rirrrrrrirrr r0 6 w0 ro r_doors r_openingWalls r_froms r_tos r_lowers r_uppers rs r_standWalls r_standXs r_standYs, cA Z w_lefts 0 8 Wh, cA Z w_rights 0 8 Wk, cA Z r_doors 2 8 Rd, cA Z r_openingWalls 0 8 Rw, cA Z r_froms 0 8 Rf, cA Z r_tos 0 8 Rt, cA Z r_lowers 0 8 Rl, cA Z r_uppers 0 8 Ru, cO_rri e0 4 t0 r0 y3, cO_riirrr t0 9 t_bytes ts tk t_kinds t_places t_values, cA Z t_kinds 0 401 Tk, cA Z t_values 0 401 Tv]) rfl (by decide) rfl rfl (Nat.le_of_ble_eq_true rfl) (by decide) dX4_readDoor_47 (fun r w' hpo => ?_)
      refine exN_1 hpo fun y6 hz => anD_3 hz fun e_r e_w hf47_b_y => ?_; clear hz hpo; subst e_r; subst e_w
      refine g_as (pc' := 50) (lv' := [(1, .int (iI y2)), (0, .ref e0)]) (st' := [.int (iI y6), .int (iI 0), .ref e0]) (ws' := [cO_rirrrrrrirrr r0 6 w0 ro r_doors r_openingWalls r_froms r_tos r_lowers r_uppers rs r_standWalls r_standXs r_standYs, cA Z w_lefts 0 8 Wh, cA Z w_rights 0 8 Wk, cA Z r_doors 2 8 Rd, cA Z r_openingWalls 0 8 Rw, cA Z r_froms 0 8 Rf, cA Z r_tos 0 8 Rt, cA Z r_lowers 0 8 Rl, cA Z r_uppers 0 8 Ru, cO_rri e0 4 t0 r0 y3, cO_riirrr t0 9 t_bytes ts tk t_kinds t_places t_values, cA Z t_kinds 0 401 Tk, cA Z t_values 0 401 Tv, cO_rrrrrrii w0 10 w_begins w_lengths w_lefts w_rights w_leans w_leaning wn wr, cA Z w_lengths 0 8 Wl]) rfl rfl rfl rfl ?_
      refine g_callV (pc := 50) X (k_X4_readNumber l Z e0 t0 r0 t_bytes t_kinds t_places t_values Tk Tv 0 y6 y3 ts tk (by decide) (by (first | (clear b_ts b_ro b_rs b_wr; omega) | omega)) hf24_b_to2 b_ts b_tk (h_Tk) (h_Tv)) iM_X4_readNumber mw_16_22 mw_16_23 mw_17_0 9 rfl rfl [9, 10, 11, 12] [0, 1, 2, 3, 4, 5, 6, 7, 8, 13, 14] rfl (wr := [cO_rirrrrrrirrr r0 6 w0 ro r_doors r_openingWalls r_froms r_tos r_lowers r_uppers rs r_standWalls r_standXs r_standYs, cA Z w_lefts 0 8 Wh, cA Z w_rights 0 8 Wk, cA Z r_doors 2 8 Rd, cA Z r_openingWalls 0 8 Rw, cA Z r_froms 0 8 Rf, cA Z r_tos 0 8 Rt, cA Z r_lowers 0 8 Rl, cA Z r_uppers 0 8 Ru, cO_rrrrrrii w0 10 w_begins w_lengths w_lefts w_rights w_leans w_leaning wn wr, cA Z w_lengths 0 8 Wl]) rfl (by decide) rfl rfl (Nat.le_of_ble_eq_true rfl) (by decide) dX4_readDoor_50 (fun r w' hpo => ?_)
      rcases hpo with hp0 | hp1
      · obtain ⟨rfl, rfl⟩ := hp0
        refine g_as (pc' := 53) (lv' := [(1, .int (iI y2)), (0, .ref e0)]) (st' := [.int (iI (-1))]) (ws' := [cO_rirrrrrrirrr r0 6 w0 ro r_doors r_openingWalls r_froms r_tos r_lowers r_uppers rs r_standWalls r_standXs r_standYs, cA Z w_lefts 0 8 Wh, cA Z w_rights 0 8 Wk, cA Z r_doors 2 8 Rd, cA Z r_openingWalls 0 8 Rw, cA Z r_froms 0 8 Rf, cA Z r_tos 0 8 Rt, cA Z r_lowers 0 8 Rl, cA Z r_uppers 0 8 Ru, cO_rrrrrrii w0 10 w_begins w_lengths w_lefts w_rights w_leans w_leaning wn wr, cA Z w_lengths 0 8 Wl, cO_rri e0 4 t0 r0 y3, cO_riirrr t0 9 t_bytes ts tk t_kinds t_places t_values, cA Z t_kinds 0 401 Tk, cA Z t_values 0 401 Tv]) rfl rfl rfl rfl ?_
        refine g_istore_n (pc := 53) X (i := 2) rfl (by decide) (lv' := [(2, .int (iI (-1))), (1, .int (iI y2)), (0, .ref e0)]) rfl dX4_readDoor_53 ?_
        refine g_iload_n (pc := 54) X 0 rfl dX4_readDoor_54 ?_
        refine g_iconst (pc := 55) X (iI (-1)) (by rfl) dX4_readDoor_55 ?_
        refine g_icmp_neI (pc := 56) X 63 (by decide) ⟨by decide, by decide⟩ ⟨by decide, by decide⟩ dX4_readDoor_56 (fun h => absurd h (by decide)) (fun _ => ?_)
        refine g_iconst (pc := 59) X (iI (-1)) (by rfl) dX4_readDoor_59 ?_
        refine g_goto (pc := 60) X 81 (by decide) dX4_readDoor_60 ?_
        refine g_istore_n (pc := 81) X (i := 3) rfl (by decide) (lv' := [(3, .int (iI (-1))), (2, .int (iI (-1))), (1, .int (iI y2)), (0, .ref e0)]) rfl dX4_readDoor_81 ?_
        refine g_iload_n (pc := 82) X 0 rfl dX4_readDoor_82 ?_
        refine g_iconst (pc := 83) X (iI (-1)) (by rfl) dX4_readDoor_83 ?_
        refine g_icmp_neI (pc := 84) X 91 (by decide) ⟨by decide, by decide⟩ ⟨by decide, by decide⟩ dX4_readDoor_84 (fun h => absurd h (by decide)) (fun _ => ?_)
        refine g_iconst (pc := 87) X (iI (-1)) (by rfl) dX4_readDoor_87 ?_
        refine g_goto (pc := 88) X 110 (by decide) dX4_readDoor_88 ?_
        refine g_istore (pc := 110) X (by decide) (lv' := [(4, .int (iI (-1))), (3, .int (iI (-1))), (2, .int (iI (-1))), (1, .int (iI y2)), (0, .ref e0)]) rfl dX4_readDoor_110 ?_
        refine g_iload (pc := 112) X 0 rfl dX4_readDoor_112 ?_
        refine g_iconst (pc := 114) X (iI (-1)) (by rfl) dX4_readDoor_114 ?_
        refine g_icmp_eqI (pc := 115) X 127 (by decide) ⟨by decide, by decide⟩ ⟨by decide, by decide⟩ dX4_readDoor_115 (fun _ => ?_) (fun h => absurd h (by decide))
        refine g_iconst (pc := 127) X (iI 0) (by rfl) dX4_readDoor_127 ?_
        refine g_ws (ws' := [cO_rri e0 4 t0 r0 y3, cO_riirrr t0 9 t_bytes ts tk t_kinds t_places t_values, cA Z t_kinds 0 401 Tk, cA Z t_values 0 401 Tv, cO_rirrrrrrirrr r0 6 w0 ro r_doors r_openingWalls r_froms r_tos r_lowers r_uppers rs r_standWalls r_standXs r_standYs, cO_rrrrrrii w0 10 w_begins w_lengths w_lefts w_rights w_leans w_leaning wn wr, cA Z w_lengths 0 8 Wl, cA Z w_lefts 0 8 Wh, cA Z w_rights 0 8 Wk, cA Z r_doors 2 8 Rd, cA Z r_openingWalls 0 8 Rw, cA Z r_froms 0 8 Rf, cA Z r_tos 0 8 Rt, cA Z r_lowers 0 8 Rl, cA Z r_uppers 0 8 Ru]) [11, 12, 13, 14, 0, 9, 10, 1, 2, 3, 4, 5, 6, 7, 8] (by decide) rfl ?_
        exact g_zret (pc := 128) X hA (rfl) (⟨Rd, Rw, Rf, Rt, Rl, Ru, y3, ro, 0, rfl, rfl, (hf24_b_to2), (b_ro), (by (first | (clear b_ts b_ro b_rs b_wr; omega) | omega)), (h_Rd), (h_Rw), (h_Rf), (h_Rt), (h_Rl), (h_Ru), (by (first | (clear b_ts b_ro b_rs b_wr; omega) | omega)), (by (first | (clear b_ts b_ro b_rs b_wr; omega) | omega))⟩) (by decide) (by decide) dX4_readDoor_128
      · refine exN_2 hp1 fun y9 y10 hz => anD_7 hz fun e_r e_w hf50_b_y hf50_b_to2 hf50_f1 hf50_f2 hf50_f3 => ?_; clear hz hp1; subst e_r; subst e_w
        refine g_as (pc' := 53) (lv' := [(1, .int (iI y2)), (0, .ref e0)]) (st' := [.int (iI y9)]) (ws' := [cO_rirrrrrrirrr r0 6 w0 ro r_doors r_openingWalls r_froms r_tos r_lowers r_uppers rs r_standWalls r_standXs r_standYs, cA Z w_lefts 0 8 Wh, cA Z w_rights 0 8 Wk, cA Z r_doors 2 8 Rd, cA Z r_openingWalls 0 8 Rw, cA Z r_froms 0 8 Rf, cA Z r_tos 0 8 Rt, cA Z r_lowers 0 8 Rl, cA Z r_uppers 0 8 Ru, cO_rrrrrrii w0 10 w_begins w_lengths w_lefts w_rights w_leans w_leaning wn wr, cA Z w_lengths 0 8 Wl, cO_rri e0 4 t0 r0 y10, cO_riirrr t0 9 t_bytes ts tk t_kinds t_places t_values, cA Z t_kinds 0 401 Tk, cA Z t_values 0 401 Tv]) rfl rfl rfl rfl ?_
        have tt12 : 0 ≤ y9 ∧ y9 ≤ 600 := by (first | (clear b_ts b_ro b_rs b_wr; omega) | omega)
        refine g_istore_n (pc := 53) X (i := 2) rfl (by decide) (lv' := [(2, .int (iI y9)), (1, .int (iI y2)), (0, .ref e0)]) rfl dX4_readDoor_53 ?_
        refine g_iload_n (pc := 54) X 0 rfl dX4_readDoor_54 ?_
        refine g_iconst (pc := 55) X (iI (-1)) (by rfl) dX4_readDoor_55 ?_
        refine g_icmp_neI (pc := 56) X 63 (by decide) (inRb hf50_b_y (by decide) (by decide)) ⟨by decide, by decide⟩ dX4_readDoor_56 (fun c56 => ?_) (fun c56 => ?_)
        · refine g_aload_n (pc := 63) X 2 rfl dX4_readDoor_63 ?_
          refine g_iload_n (pc := 64) X 0 rfl dX4_readDoor_64 ?_
          refine g_iconst (pc := 65) X (iI 1) (by rfl) dX4_readDoor_65 ?_
          refine g_iaddI (pc := 66) X dX4_readDoor_66 ?_
          refine g_aload_n (pc := 67) X 2 rfl dX4_readDoor_67 ?_
          refine g_get (pc := 68) X inlX4 11 rfl rfl 1 (by decide) mw_12_1 rfl dX4_readDoor_68 ?_
          refine g_get (pc := 71) X inlX6 0 rfl rfl 0 (by decide) mw_12_2 rfl dX4_readDoor_71 ?_
          refine g_iload_n (pc := 74) X 1 rfl dX4_readDoor_74 ?_
          refine g_callV (pc := 75) X (k_X10_lengthOf l Z w0 w_begins w_lengths w_lefts w_rights w_leans w_leaning Wl y2 wn wr (by (first | (clear b_ts b_ro b_rs b_wr; omega) | omega)) b_wn b_wr (h_Wl)) iM_X10_lengthOf mw_17_15 mw_17_16 mw_17_17 9 rfl rfl [9, 10] [0, 1, 2, 3, 4, 5, 6, 7, 8, 11, 12, 13, 14] rfl (wr := [cO_rirrrrrrirrr r0 6 w0 ro r_doors r_openingWalls r_froms r_tos r_lowers r_uppers rs r_standWalls r_standXs r_standYs, cA Z w_lefts 0 8 Wh, cA Z w_rights 0 8 Wk, cA Z r_doors 2 8 Rd, cA Z r_openingWalls 0 8 Rw, cA Z r_froms 0 8 Rf, cA Z r_tos 0 8 Rt, cA Z r_lowers 0 8 Rl, cA Z r_uppers 0 8 Ru, cO_rri e0 4 t0 r0 y10, cO_riirrr t0 9 t_bytes ts tk t_kinds t_places t_values, cA Z t_kinds 0 401 Tk, cA Z t_values 0 401 Tv]) rfl (by decide) rfl rfl (Nat.le_of_ble_eq_true rfl) (by decide) dX4_readDoor_75 (fun r w' hpo => ?_)
          refine exN_1 hpo fun y13 hz => anD_3 hz fun e_r e_w hf75_b_y => ?_; clear hz hpo; subst e_r; subst e_w
          refine g_as (pc' := 78) (lv' := [(2, .int (iI y9)), (1, .int (iI y2)), (0, .ref e0)]) (st' := [.int (iI y13), .int (iI (y9 + 1)), .ref e0]) (ws' := [cO_rirrrrrrirrr r0 6 w0 ro r_doors r_openingWalls r_froms r_tos r_lowers r_uppers rs r_standWalls r_standXs r_standYs, cA Z w_lefts 0 8 Wh, cA Z w_rights 0 8 Wk, cA Z r_doors 2 8 Rd, cA Z r_openingWalls 0 8 Rw, cA Z r_froms 0 8 Rf, cA Z r_tos 0 8 Rt, cA Z r_lowers 0 8 Rl, cA Z r_uppers 0 8 Ru, cO_rri e0 4 t0 r0 y10, cO_riirrr t0 9 t_bytes ts tk t_kinds t_places t_values, cA Z t_kinds 0 401 Tk, cA Z t_values 0 401 Tv, cO_rrrrrrii w0 10 w_begins w_lengths w_lefts w_rights w_leans w_leaning wn wr, cA Z w_lengths 0 8 Wl]) rfl rfl rfl rfl ?_
          refine g_callV (pc := 78) X (k_X4_readNumber l Z e0 t0 r0 t_bytes t_kinds t_places t_values Tk Tv (y9 + 1) y13 y10 ts tk (by (first | (clear b_ts b_ro b_rs b_wr; omega) | omega)) (by (first | (clear b_ts b_ro b_rs b_wr; omega) | omega)) hf50_b_to2 b_ts b_tk (h_Tk) (h_Tv)) iM_X4_readNumber mw_16_22 mw_16_23 mw_17_0 9 rfl rfl [9, 10, 11, 12] [0, 1, 2, 3, 4, 5, 6, 7, 8, 13, 14] rfl (wr := [cO_rirrrrrrirrr r0 6 w0 ro r_doors r_openingWalls r_froms r_tos r_lowers r_uppers rs r_standWalls r_standXs r_standYs, cA Z w_lefts 0 8 Wh, cA Z w_rights 0 8 Wk, cA Z r_doors 2 8 Rd, cA Z r_openingWalls 0 8 Rw, cA Z r_froms 0 8 Rf, cA Z r_tos 0 8 Rt, cA Z r_lowers 0 8 Rl, cA Z r_uppers 0 8 Ru, cO_rrrrrrii w0 10 w_begins w_lengths w_lefts w_rights w_leans w_leaning wn wr, cA Z w_lengths 0 8 Wl]) rfl (by decide) rfl rfl (Nat.le_of_ble_eq_true rfl) (by decide) dX4_readDoor_78 (fun r w' hpo => ?_)
          rcases hpo with hp0 | hp1
          · obtain ⟨rfl, rfl⟩ := hp0
            refine g_as (pc' := 81) (lv' := [(2, .int (iI y9)), (1, .int (iI y2)), (0, .ref e0)]) (st' := [.int (iI (-1))]) (ws' := [cO_rirrrrrrirrr r0 6 w0 ro r_doors r_openingWalls r_froms r_tos r_lowers r_uppers rs r_standWalls r_standXs r_standYs, cA Z w_lefts 0 8 Wh, cA Z w_rights 0 8 Wk, cA Z r_doors 2 8 Rd, cA Z r_openingWalls 0 8 Rw, cA Z r_froms 0 8 Rf, cA Z r_tos 0 8 Rt, cA Z r_lowers 0 8 Rl, cA Z r_uppers 0 8 Ru, cO_rrrrrrii w0 10 w_begins w_lengths w_lefts w_rights w_leans w_leaning wn wr, cA Z w_lengths 0 8 Wl, cO_rri e0 4 t0 r0 y10, cO_riirrr t0 9 t_bytes ts tk t_kinds t_places t_values, cA Z t_kinds 0 401 Tk, cA Z t_values 0 401 Tv]) rfl rfl rfl rfl ?_
            refine g_istore_n (pc := 81) X (i := 3) rfl (by decide) (lv' := [(3, .int (iI (-1))), (2, .int (iI y9)), (1, .int (iI y2)), (0, .ref e0)]) rfl dX4_readDoor_81 ?_
            refine g_iload_n (pc := 82) X 0 rfl dX4_readDoor_82 ?_
            refine g_iconst (pc := 83) X (iI (-1)) (by rfl) dX4_readDoor_83 ?_
            refine g_icmp_neI (pc := 84) X 91 (by decide) ⟨by decide, by decide⟩ ⟨by decide, by decide⟩ dX4_readDoor_84 (fun h => absurd h (by decide)) (fun _ => ?_)
            refine g_iconst (pc := 87) X (iI (-1)) (by rfl) dX4_readDoor_87 ?_
            refine g_goto (pc := 88) X 110 (by decide) dX4_readDoor_88 ?_
            refine g_istore (pc := 110) X (by decide) (lv' := [(4, .int (iI (-1))), (3, .int (iI (-1))), (2, .int (iI y9)), (1, .int (iI y2)), (0, .ref e0)]) rfl dX4_readDoor_110 ?_
            refine g_iload (pc := 112) X 0 rfl dX4_readDoor_112 ?_
            refine g_iconst (pc := 114) X (iI (-1)) (by rfl) dX4_readDoor_114 ?_
            refine g_icmp_eqI (pc := 115) X 127 (by decide) ⟨by decide, by decide⟩ ⟨by decide, by decide⟩ dX4_readDoor_115 (fun _ => ?_) (fun h => absurd h (by decide))
            refine g_iconst (pc := 127) X (iI 0) (by rfl) dX4_readDoor_127 ?_
            refine g_ws (ws' := [cO_rri e0 4 t0 r0 y10, cO_riirrr t0 9 t_bytes ts tk t_kinds t_places t_values, cA Z t_kinds 0 401 Tk, cA Z t_values 0 401 Tv, cO_rirrrrrrirrr r0 6 w0 ro r_doors r_openingWalls r_froms r_tos r_lowers r_uppers rs r_standWalls r_standXs r_standYs, cO_rrrrrrii w0 10 w_begins w_lengths w_lefts w_rights w_leans w_leaning wn wr, cA Z w_lengths 0 8 Wl, cA Z w_lefts 0 8 Wh, cA Z w_rights 0 8 Wk, cA Z r_doors 2 8 Rd, cA Z r_openingWalls 0 8 Rw, cA Z r_froms 0 8 Rf, cA Z r_tos 0 8 Rt, cA Z r_lowers 0 8 Rl, cA Z r_uppers 0 8 Ru]) [11, 12, 13, 14, 0, 9, 10, 1, 2, 3, 4, 5, 6, 7, 8] (by decide) rfl ?_
            exact g_zret (pc := 128) X hA (rfl) (⟨Rd, Rw, Rf, Rt, Rl, Ru, y10, ro, 0, rfl, rfl, (hf50_b_to2), (b_ro), (by (first | (clear b_ts b_ro b_rs b_wr; omega) | omega)), (h_Rd), (h_Rw), (h_Rf), (h_Rt), (h_Rl), (h_Ru), (by (first | (clear b_ts b_ro b_rs b_wr; omega) | omega)), (by (first | (clear b_ts b_ro b_rs b_wr; omega) | omega))⟩) (by decide) (by decide) dX4_readDoor_128
          · refine exN_2 hp1 fun y16 y17 hz => anD_7 hz fun e_r e_w hf78_b_y hf78_b_to2 hf78_f1 hf78_f2 hf78_f3 => ?_; clear hz hp1; subst e_r; subst e_w
            refine g_as (pc' := 81) (lv' := [(2, .int (iI y9)), (1, .int (iI y2)), (0, .ref e0)]) (st' := [.int (iI y16)]) (ws' := [cO_rirrrrrrirrr r0 6 w0 ro r_doors r_openingWalls r_froms r_tos r_lowers r_uppers rs r_standWalls r_standXs r_standYs, cA Z w_lefts 0 8 Wh, cA Z w_rights 0 8 Wk, cA Z r_doors 2 8 Rd, cA Z r_openingWalls 0 8 Rw, cA Z r_froms 0 8 Rf, cA Z r_tos 0 8 Rt, cA Z r_lowers 0 8 Rl, cA Z r_uppers 0 8 Ru, cO_rrrrrrii w0 10 w_begins w_lengths w_lefts w_rights w_leans w_leaning wn wr, cA Z w_lengths 0 8 Wl, cO_rri e0 4 t0 r0 y17, cO_riirrr t0 9 t_bytes ts tk t_kinds t_places t_values, cA Z t_kinds 0 401 Tk, cA Z t_values 0 401 Tv]) rfl rfl rfl rfl ?_
            have tt19 : 0 ≤ y16 ∧ y16 ≤ 600 := by (first | (clear b_ts b_ro b_rs b_wr; omega) | omega)
            refine g_istore_n (pc := 81) X (i := 3) rfl (by decide) (lv' := [(3, .int (iI y16)), (2, .int (iI y9)), (1, .int (iI y2)), (0, .ref e0)]) rfl dX4_readDoor_81 ?_
            refine g_iload_n (pc := 82) X 0 rfl dX4_readDoor_82 ?_
            refine g_iconst (pc := 83) X (iI (-1)) (by rfl) dX4_readDoor_83 ?_
            refine g_icmp_neI (pc := 84) X 91 (by decide) (inRb hf78_b_y (by decide) (by decide)) ⟨by decide, by decide⟩ dX4_readDoor_84 (fun c84 => ?_) (fun c84 => ?_)
            · refine g_aload_n (pc := 91) X 3 rfl dX4_readDoor_91 ?_
              refine g_bipush (pc := 92) X (iI 50) (by decide) dX4_readDoor_92 ?_
              refine g_aload_n (pc := 94) X 3 rfl dX4_readDoor_94 ?_
              refine g_get (pc := 95) X inlX4 11 rfl rfl 1 (by decide) mw_12_1 rfl dX4_readDoor_95 ?_
              refine g_get (pc := 98) X inlX6 0 rfl rfl 0 (by decide) mw_12_2 rfl dX4_readDoor_98 ?_
              refine g_iload_n (pc := 101) X 2 rfl dX4_readDoor_101 ?_
              refine g_callV (pc := 102) X (k_X10_lesserHeightOf l Z w0 w_begins w_lengths w_lefts w_rights w_leans w_leaning Wh Wk y2 wn wr (by (first | (clear b_ts b_ro b_rs b_wr; omega) | omega)) b_wn b_wr (h_Wh) (h_Wk)) iM_X10_lesserHeightOf mw_17_23 mw_18_0 mw_18_1 9 rfl rfl [9, 1, 2] [0, 3, 4, 5, 6, 7, 8, 10, 11, 12, 13, 14] rfl (wr := [cO_rirrrrrrirrr r0 6 w0 ro r_doors r_openingWalls r_froms r_tos r_lowers r_uppers rs r_standWalls r_standXs r_standYs, cA Z r_doors 2 8 Rd, cA Z r_openingWalls 0 8 Rw, cA Z r_froms 0 8 Rf, cA Z r_tos 0 8 Rt, cA Z r_lowers 0 8 Rl, cA Z r_uppers 0 8 Ru, cA Z w_lengths 0 8 Wl, cO_rri e0 4 t0 r0 y17, cO_riirrr t0 9 t_bytes ts tk t_kinds t_places t_values, cA Z t_kinds 0 401 Tk, cA Z t_values 0 401 Tv]) rfl (by decide) rfl rfl (Nat.le_of_ble_eq_true rfl) (by decide) dX4_readDoor_102 (fun r w' hpo => ?_)
              refine exN_1 hpo fun y20 hz => anD_3 hz fun e_r e_w hf102_b_y => ?_; clear hz hpo; subst e_r; subst e_w
              refine g_as (pc' := 105) (lv' := [(3, .int (iI y16)), (2, .int (iI y9)), (1, .int (iI y2)), (0, .ref e0)]) (st' := [.int (iI y20), .int (iI 50), .ref e0]) (ws' := [cO_rirrrrrrirrr r0 6 w0 ro r_doors r_openingWalls r_froms r_tos r_lowers r_uppers rs r_standWalls r_standXs r_standYs, cA Z r_doors 2 8 Rd, cA Z r_openingWalls 0 8 Rw, cA Z r_froms 0 8 Rf, cA Z r_tos 0 8 Rt, cA Z r_lowers 0 8 Rl, cA Z r_uppers 0 8 Ru, cA Z w_lengths 0 8 Wl, cO_rri e0 4 t0 r0 y17, cO_riirrr t0 9 t_bytes ts tk t_kinds t_places t_values, cA Z t_kinds 0 401 Tk, cA Z t_values 0 401 Tv, cO_rrrrrrii w0 10 w_begins w_lengths w_lefts w_rights w_leans w_leaning wn wr, cA Z w_lefts 0 8 Wh, cA Z w_rights 0 8 Wk]) rfl rfl rfl rfl ?_
              refine g_iconst (pc := 105) X (iI 1) (by rfl) dX4_readDoor_105 ?_
              refine g_isubI (pc := 106) X dX4_readDoor_106 ?_
              refine g_callV (pc := 107) X (k_X4_readNumber l Z e0 t0 r0 t_bytes t_kinds t_places t_values Tk Tv 50 (y20 - 1) y17 ts tk (by decide) (by (first | (clear b_ts b_ro b_rs b_wr; omega) | omega)) hf78_b_to2 b_ts b_tk (h_Tk) (h_Tv)) iM_X4_readNumber mw_16_22 mw_16_23 mw_17_0 8 rfl rfl [8, 9, 10, 11] [0, 1, 2, 3, 4, 5, 6, 7, 12, 13, 14] rfl (wr := [cO_rirrrrrrirrr r0 6 w0 ro r_doors r_openingWalls r_froms r_tos r_lowers r_uppers rs r_standWalls r_standXs r_standYs, cA Z r_doors 2 8 Rd, cA Z r_openingWalls 0 8 Rw, cA Z r_froms 0 8 Rf, cA Z r_tos 0 8 Rt, cA Z r_lowers 0 8 Rl, cA Z r_uppers 0 8 Ru, cA Z w_lengths 0 8 Wl, cO_rrrrrrii w0 10 w_begins w_lengths w_lefts w_rights w_leans w_leaning wn wr, cA Z w_lefts 0 8 Wh, cA Z w_rights 0 8 Wk]) rfl (by decide) rfl rfl (Nat.le_of_ble_eq_true rfl) (by decide) dX4_readDoor_107 (fun r w' hpo => ?_)
              rcases hpo with hp0 | hp1
              · obtain ⟨rfl, rfl⟩ := hp0
                refine g_as (pc' := 110) (lv' := [(3, .int (iI y16)), (2, .int (iI y9)), (1, .int (iI y2)), (0, .ref e0)]) (st' := [.int (iI (-1))]) (ws' := [cO_rirrrrrrirrr r0 6 w0 ro r_doors r_openingWalls r_froms r_tos r_lowers r_uppers rs r_standWalls r_standXs r_standYs, cA Z r_doors 2 8 Rd, cA Z r_openingWalls 0 8 Rw, cA Z r_froms 0 8 Rf, cA Z r_tos 0 8 Rt, cA Z r_lowers 0 8 Rl, cA Z r_uppers 0 8 Ru, cA Z w_lengths 0 8 Wl, cO_rrrrrrii w0 10 w_begins w_lengths w_lefts w_rights w_leans w_leaning wn wr, cA Z w_lefts 0 8 Wh, cA Z w_rights 0 8 Wk, cO_rri e0 4 t0 r0 y17, cO_riirrr t0 9 t_bytes ts tk t_kinds t_places t_values, cA Z t_kinds 0 401 Tk, cA Z t_values 0 401 Tv]) rfl rfl rfl rfl ?_
                refine g_istore (pc := 110) X (by decide) (lv' := [(4, .int (iI (-1))), (3, .int (iI y16)), (2, .int (iI y9)), (1, .int (iI y2)), (0, .ref e0)]) rfl dX4_readDoor_110 ?_
                refine g_iload (pc := 112) X 0 rfl dX4_readDoor_112 ?_
                refine g_iconst (pc := 114) X (iI (-1)) (by rfl) dX4_readDoor_114 ?_
                refine g_icmp_eqI (pc := 115) X 127 (by decide) ⟨by decide, by decide⟩ ⟨by decide, by decide⟩ dX4_readDoor_115 (fun _ => ?_) (fun h => absurd h (by decide))
                refine g_iconst (pc := 127) X (iI 0) (by rfl) dX4_readDoor_127 ?_
                refine g_ws (ws' := [cO_rri e0 4 t0 r0 y17, cO_riirrr t0 9 t_bytes ts tk t_kinds t_places t_values, cA Z t_kinds 0 401 Tk, cA Z t_values 0 401 Tv, cO_rirrrrrrirrr r0 6 w0 ro r_doors r_openingWalls r_froms r_tos r_lowers r_uppers rs r_standWalls r_standXs r_standYs, cO_rrrrrrii w0 10 w_begins w_lengths w_lefts w_rights w_leans w_leaning wn wr, cA Z w_lengths 0 8 Wl, cA Z w_lefts 0 8 Wh, cA Z w_rights 0 8 Wk, cA Z r_doors 2 8 Rd, cA Z r_openingWalls 0 8 Rw, cA Z r_froms 0 8 Rf, cA Z r_tos 0 8 Rt, cA Z r_lowers 0 8 Rl, cA Z r_uppers 0 8 Ru]) [11, 12, 13, 14, 0, 8, 7, 9, 10, 1, 2, 3, 4, 5, 6] (by decide) rfl ?_
                exact g_zret (pc := 128) X hA (rfl) (⟨Rd, Rw, Rf, Rt, Rl, Ru, y17, ro, 0, rfl, rfl, (hf78_b_to2), (b_ro), (by (first | (clear b_ts b_ro b_rs b_wr; omega) | omega)), (h_Rd), (h_Rw), (h_Rf), (h_Rt), (h_Rl), (h_Ru), (by (first | (clear b_ts b_ro b_rs b_wr; omega) | omega)), (by (first | (clear b_ts b_ro b_rs b_wr; omega) | omega))⟩) (by decide) (by decide) dX4_readDoor_128
              · refine exN_2 hp1 fun y23 y24 hz => anD_7 hz fun e_r e_w hf107_b_y hf107_b_to2 hf107_f1 hf107_f2 hf107_f3 => ?_; clear hz hp1; subst e_r; subst e_w
                refine g_as (pc' := 110) (lv' := [(3, .int (iI y16)), (2, .int (iI y9)), (1, .int (iI y2)), (0, .ref e0)]) (st' := [.int (iI y23)]) (ws' := [cO_rirrrrrrirrr r0 6 w0 ro r_doors r_openingWalls r_froms r_tos r_lowers r_uppers rs r_standWalls r_standXs r_standYs, cA Z r_doors 2 8 Rd, cA Z r_openingWalls 0 8 Rw, cA Z r_froms 0 8 Rf, cA Z r_tos 0 8 Rt, cA Z r_lowers 0 8 Rl, cA Z r_uppers 0 8 Ru, cA Z w_lengths 0 8 Wl, cO_rrrrrrii w0 10 w_begins w_lengths w_lefts w_rights w_leans w_leaning wn wr, cA Z w_lefts 0 8 Wh, cA Z w_rights 0 8 Wk, cO_rri e0 4 t0 r0 y24, cO_riirrr t0 9 t_bytes ts tk t_kinds t_places t_values, cA Z t_kinds 0 401 Tk, cA Z t_values 0 401 Tv]) rfl rfl rfl rfl ?_
                have tt26 : 0 ≤ y23 ∧ y23 ≤ 400 := by (first | (clear b_ts b_ro b_rs b_wr; omega) | omega)
                refine g_istore (pc := 110) X (by decide) (lv' := [(4, .int (iI y23)), (3, .int (iI y16)), (2, .int (iI y9)), (1, .int (iI y2)), (0, .ref e0)]) rfl dX4_readDoor_110 ?_
                refine g_iload (pc := 112) X 0 rfl dX4_readDoor_112 ?_
                refine g_iconst (pc := 114) X (iI (-1)) (by rfl) dX4_readDoor_114 ?_
                refine g_icmp_eqI (pc := 115) X 127 (by decide) (inRb hf107_b_y (by decide) (by decide)) ⟨by decide, by decide⟩ dX4_readDoor_115 (fun c115 => ?_) (fun c115 => ?_)
                · refine g_iconst (pc := 127) X (iI 0) (by rfl) dX4_readDoor_127 ?_
                  refine g_ws (ws' := [cO_rri e0 4 t0 r0 y24, cO_riirrr t0 9 t_bytes ts tk t_kinds t_places t_values, cA Z t_kinds 0 401 Tk, cA Z t_values 0 401 Tv, cO_rirrrrrrirrr r0 6 w0 ro r_doors r_openingWalls r_froms r_tos r_lowers r_uppers rs r_standWalls r_standXs r_standYs, cO_rrrrrrii w0 10 w_begins w_lengths w_lefts w_rights w_leans w_leaning wn wr, cA Z w_lengths 0 8 Wl, cA Z w_lefts 0 8 Wh, cA Z w_rights 0 8 Wk, cA Z r_doors 2 8 Rd, cA Z r_openingWalls 0 8 Rw, cA Z r_froms 0 8 Rf, cA Z r_tos 0 8 Rt, cA Z r_lowers 0 8 Rl, cA Z r_uppers 0 8 Ru]) [11, 12, 13, 14, 0, 8, 7, 9, 10, 1, 2, 3, 4, 5, 6] (by decide) rfl ?_
                  exact g_zret (pc := 128) X hA (rfl) (⟨Rd, Rw, Rf, Rt, Rl, Ru, y24, ro, 0, rfl, rfl, (hf107_b_to2), (b_ro), (by (first | (clear b_ts b_ro b_rs b_wr; omega) | omega)), (h_Rd), (h_Rw), (h_Rf), (h_Rt), (h_Rl), (h_Ru), (by (first | (clear b_ts b_ro b_rs b_wr; omega) | omega)), (by (first | (clear b_ts b_ro b_rs b_wr; omega) | omega))⟩) (by decide) (by decide) dX4_readDoor_128
                · refine g_aload_n (pc := 118) X 4 rfl dX4_readDoor_118 ?_
                  refine g_bipush (pc := 119) X (iI 8) (by decide) dX4_readDoor_119 ?_
                  refine g_callV (pc := 121) X (k_X4_readSign l Z e0 t0 r0 t_bytes t_kinds t_places t_values Tk 8 y24 ts tk (by decide) hf107_b_to2 b_ts b_tk (h_Tk)) iM_X4_readSign mw_17_3 mw_17_4 mw_17_5 11 rfl rfl [11, 12, 13] [0, 1, 2, 3, 4, 5, 6, 7, 8, 9, 10, 14] rfl (wr := [cO_rirrrrrrirrr r0 6 w0 ro r_doors r_openingWalls r_froms r_tos r_lowers r_uppers rs r_standWalls r_standXs r_standYs, cA Z r_doors 2 8 Rd, cA Z r_openingWalls 0 8 Rw, cA Z r_froms 0 8 Rf, cA Z r_tos 0 8 Rt, cA Z r_lowers 0 8 Rl, cA Z r_uppers 0 8 Ru, cA Z w_lengths 0 8 Wl, cO_rrrrrrii w0 10 w_begins w_lengths w_lefts w_rights w_leans w_leaning wn wr, cA Z w_lefts 0 8 Wh, cA Z w_rights 0 8 Wk, cA Z t_values 0 401 Tv]) rfl (by decide) rfl rfl (Nat.le_of_ble_eq_true rfl) (by decide) dX4_readDoor_121 (fun r w' hpo => ?_)
                  rcases hpo with hp0 | hp1
                  · obtain ⟨rfl, rfl⟩ := hp0
                    refine g_as (pc' := 124) (lv' := [(4, .int (iI y23)), (3, .int (iI y16)), (2, .int (iI y9)), (1, .int (iI y2)), (0, .ref e0)]) (st' := [.int (iI 0)]) (ws' := [cO_rirrrrrrirrr r0 6 w0 ro r_doors r_openingWalls r_froms r_tos r_lowers r_uppers rs r_standWalls r_standXs r_standYs, cA Z r_doors 2 8 Rd, cA Z r_openingWalls 0 8 Rw, cA Z r_froms 0 8 Rf, cA Z r_tos 0 8 Rt, cA Z r_lowers 0 8 Rl, cA Z r_uppers 0 8 Ru, cA Z w_lengths 0 8 Wl, cO_rrrrrrii w0 10 w_begins w_lengths w_lefts w_rights w_leans w_leaning wn wr, cA Z w_lefts 0 8 Wh, cA Z w_rights 0 8 Wk, cA Z t_values 0 401 Tv, cO_rri e0 4 t0 r0 y24, cO_riirrr t0 9 t_bytes ts tk t_kinds t_places t_values, cA Z t_kinds 0 401 Tk]) rfl rfl rfl rfl ?_
                    refine g_if_neI (pc := 124) X 129 (by decide) ⟨by decide, by decide⟩ dX4_readDoor_124 (fun h => absurd h (by decide)) (fun _ => ?_)
                    refine g_iconst (pc := 127) X (iI 0) (by rfl) dX4_readDoor_127 ?_
                    refine g_ws (ws' := [cO_rri e0 4 t0 r0 y24, cO_riirrr t0 9 t_bytes ts tk t_kinds t_places t_values, cA Z t_kinds 0 401 Tk, cA Z t_values 0 401 Tv, cO_rirrrrrrirrr r0 6 w0 ro r_doors r_openingWalls r_froms r_tos r_lowers r_uppers rs r_standWalls r_standXs r_standYs, cO_rrrrrrii w0 10 w_begins w_lengths w_lefts w_rights w_leans w_leaning wn wr, cA Z w_lengths 0 8 Wl, cA Z w_lefts 0 8 Wh, cA Z w_rights 0 8 Wk, cA Z r_doors 2 8 Rd, cA Z r_openingWalls 0 8 Rw, cA Z r_froms 0 8 Rf, cA Z r_tos 0 8 Rt, cA Z r_lowers 0 8 Rl, cA Z r_uppers 0 8 Ru]) [12, 13, 14, 11, 0, 8, 7, 9, 10, 1, 2, 3, 4, 5, 6] (by decide) rfl ?_
                    exact g_zret (pc := 128) X hA (rfl) (⟨Rd, Rw, Rf, Rt, Rl, Ru, y24, ro, 0, rfl, rfl, (hf107_b_to2), (b_ro), (by (first | (clear b_ts b_ro b_rs b_wr; omega) | omega)), (h_Rd), (h_Rw), (h_Rf), (h_Rt), (h_Rl), (h_Ru), (by (first | (clear b_ts b_ro b_rs b_wr; omega) | omega)), (by (first | (clear b_ts b_ro b_rs b_wr; omega) | omega))⟩) (by decide) (by decide) dX4_readDoor_128
                  · refine exN_1 hp1 fun y28 hz => anD_5 hz fun e_r e_w hf121_b_to2 hf121_f2 hf121_f3 => ?_; clear hz hp1; subst e_r; subst e_w
                    refine g_as (pc' := 124) (lv' := [(4, .int (iI y23)), (3, .int (iI y16)), (2, .int (iI y9)), (1, .int (iI y2)), (0, .ref e0)]) (st' := [.int (iI 1)]) (ws' := [cO_rirrrrrrirrr r0 6 w0 ro r_doors r_openingWalls r_froms r_tos r_lowers r_uppers rs r_standWalls r_standXs r_standYs, cA Z r_doors 2 8 Rd, cA Z r_openingWalls 0 8 Rw, cA Z r_froms 0 8 Rf, cA Z r_tos 0 8 Rt, cA Z r_lowers 0 8 Rl, cA Z r_uppers 0 8 Ru, cA Z w_lengths 0 8 Wl, cO_rrrrrrii w0 10 w_begins w_lengths w_lefts w_rights w_leans w_leaning wn wr, cA Z w_lefts 0 8 Wh, cA Z w_rights 0 8 Wk, cA Z t_values 0 401 Tv, cO_rri e0 4 t0 r0 y28, cO_riirrr t0 9 t_bytes ts tk t_kinds t_places t_values, cA Z t_kinds 0 401 Tk]) rfl rfl rfl rfl ?_
                    refine g_if_neI (pc := 124) X 129 (by decide) ⟨by decide, by decide⟩ dX4_readDoor_124 (fun _ => ?_) (fun h => absurd h (by decide))
                    refine g_aload_n (pc := 129) X 4 rfl dX4_readDoor_129 ?_
                    refine g_get (pc := 130) X inlX4 12 rfl rfl 1 (by decide) mw_12_1 rfl dX4_readDoor_130 ?_
                    refine g_iconst (pc := 133) X (iI 1) (by rfl) dX4_readDoor_133 ?_
                    refine g_iload_n (pc := 134) X 3 rfl dX4_readDoor_134 ?_
                    refine g_iload_n (pc := 135) X 2 rfl dX4_readDoor_135 ?_
                    refine g_iload_n (pc := 136) X 1 rfl dX4_readDoor_136 ?_
                    refine g_iconst (pc := 137) X (iI 0) (by rfl) dX4_readDoor_137 ?_
                    refine g_iload (pc := 138) X 0 rfl dX4_readDoor_138 ?_
                    refine g_callV (pc := 140) X (k_X6_addOpening l Z r0 w0 r_doors r_openingWalls r_froms r_tos r_lowers r_uppers r_standWalls r_standXs r_standYs Rd Rw Rf Rt Rl Ru 1 y2 y9 y16 0 y23 ro rs (by decide) (by (first | (clear b_ts b_ro b_rs b_wr; omega) | omega)) (by (first | (clear b_ts b_ro b_rs b_wr; omega) | omega)) (by (first | (clear b_ts b_ro b_rs b_wr; omega) | omega)) (by decide) (by (first | (clear b_ts b_ro b_rs b_wr; omega) | omega)) b_ro b_rs (h_Rd) (h_Rw) (h_Rf) (h_Rt) (h_Rl) (h_Ru)) iM_X6_addOpening mw_18_4 mw_18_5 mw_18_6 0 rfl rfl [0, 1, 2, 3, 4, 5, 6] [7, 8, 9, 10, 11, 12, 13, 14] rfl (wr := [cA Z w_lengths 0 8 Wl, cO_rrrrrrii w0 10 w_begins w_lengths w_lefts w_rights w_leans w_leaning wn wr, cA Z w_lefts 0 8 Wh, cA Z w_rights 0 8 Wk, cA Z t_values 0 401 Tv, cO_rri e0 4 t0 r0 y28, cO_riirrr t0 9 t_bytes ts tk t_kinds t_places t_values, cA Z t_kinds 0 401 Tk]) rfl (by decide) rfl rfl (Nat.le_of_ble_eq_true rfl) (by decide) dX4_readDoor_140 (fun r w' hpo => ?_)
                    refine exN_7 hpo fun F30 F31 F32 F33 F34 F35 y36 hz => anD_9 hz fun e_r e_w hf140_b_ro2 hf140_h_Rd2 hf140_h_Rw2 hf140_h_Rf2 hf140_h_Rt2 hf140_h_Rl2 hf140_h_Ru2 => ?_; clear hz hpo; subst e_r; subst e_w
                    refine g_as (pc' := 143) (lv' := [(4, .int (iI y23)), (3, .int (iI y16)), (2, .int (iI y9)), (1, .int (iI y2)), (0, .ref e0)]) (st' := []) (ws' := [cA Z w_lengths 0 8 Wl, cO_rrrrrrii w0 10 w_begins w_lengths w_lefts w_rights w_leans w_leaning wn wr, cA Z w_lefts 0 8 Wh, cA Z w_rights 0 8 Wk, cA Z t_values 0 401 Tv, cO_rri e0 4 t0 r0 y28, cO_riirrr t0 9 t_bytes ts tk t_kinds t_places t_values, cA Z t_kinds 0 401 Tk, cO_rirrrrrrirrr r0 6 w0 y36 r_doors r_openingWalls r_froms r_tos r_lowers r_uppers rs r_standWalls r_standXs r_standYs, cA Z r_doors 2 8 F30, cA Z r_openingWalls 0 8 F31, cA Z r_froms 0 8 F32, cA Z r_tos 0 8 F33, cA Z r_lowers 0 8 F34, cA Z r_uppers 0 8 F35]) rfl rfl rfl rfl ?_
                    refine g_iconst (pc := 143) X (iI 1) (by rfl) dX4_readDoor_143 ?_
                    refine g_ws (ws' := [cO_rri e0 4 t0 r0 y28, cO_riirrr t0 9 t_bytes ts tk t_kinds t_places t_values, cA Z t_kinds 0 401 Tk, cA Z t_values 0 401 Tv, cO_rirrrrrrirrr r0 6 w0 y36 r_doors r_openingWalls r_froms r_tos r_lowers r_uppers rs r_standWalls r_standXs r_standYs, cO_rrrrrrii w0 10 w_begins w_lengths w_lefts w_rights w_leans w_leaning wn wr, cA Z w_lengths 0 8 Wl, cA Z w_lefts 0 8 Wh, cA Z w_rights 0 8 Wk, cA Z r_doors 2 8 F30, cA Z r_openingWalls 0 8 F31, cA Z r_froms 0 8 F32, cA Z r_tos 0 8 F33, cA Z r_lowers 0 8 F34, cA Z r_uppers 0 8 F35]) [5, 6, 7, 4, 8, 1, 0, 2, 3, 9, 10, 11, 12, 13, 14] (by decide) rfl ?_
                    exact g_zret (pc := 144) X hA (rfl) (⟨F30, F31, F32, F33, F34, F35, y28, y36, 1, rfl, rfl, (hf121_b_to2), (hf140_b_ro2), (by (first | (clear b_ts b_ro b_rs b_wr; omega) | omega)), (hf140_h_Rd2), (hf140_h_Rw2), (hf140_h_Rf2), (hf140_h_Rt2), (hf140_h_Rl2), (hf140_h_Ru2), (by (first | (clear b_ts b_ro b_rs b_wr; omega) | omega)), (by (first | (clear b_ts b_ro b_rs b_wr; omega) | omega))⟩) (by decide) (by decide) dX4_readDoor_144
            · refine g_iconst (pc := 87) X (iI (-1)) (by rfl) dX4_readDoor_87 ?_
              refine g_goto (pc := 88) X 110 (by decide) dX4_readDoor_88 ?_
              refine g_istore (pc := 110) X (by decide) (lv' := [(4, .int (iI (-1))), (3, .int (iI y16)), (2, .int (iI y9)), (1, .int (iI y2)), (0, .ref e0)]) rfl dX4_readDoor_110 ?_
              refine g_iload (pc := 112) X 0 rfl dX4_readDoor_112 ?_
              refine g_iconst (pc := 114) X (iI (-1)) (by rfl) dX4_readDoor_114 ?_
              refine g_icmp_eqI (pc := 115) X 127 (by decide) ⟨by decide, by decide⟩ ⟨by decide, by decide⟩ dX4_readDoor_115 (fun _ => ?_) (fun h => absurd h (by decide))
              refine g_iconst (pc := 127) X (iI 0) (by rfl) dX4_readDoor_127 ?_
              refine g_ws (ws' := [cO_rri e0 4 t0 r0 y17, cO_riirrr t0 9 t_bytes ts tk t_kinds t_places t_values, cA Z t_kinds 0 401 Tk, cA Z t_values 0 401 Tv, cO_rirrrrrrirrr r0 6 w0 ro r_doors r_openingWalls r_froms r_tos r_lowers r_uppers rs r_standWalls r_standXs r_standYs, cO_rrrrrrii w0 10 w_begins w_lengths w_lefts w_rights w_leans w_leaning wn wr, cA Z w_lengths 0 8 Wl, cA Z w_lefts 0 8 Wh, cA Z w_rights 0 8 Wk, cA Z r_doors 2 8 Rd, cA Z r_openingWalls 0 8 Rw, cA Z r_froms 0 8 Rf, cA Z r_tos 0 8 Rt, cA Z r_lowers 0 8 Rl, cA Z r_uppers 0 8 Ru]) [11, 12, 13, 14, 0, 9, 10, 1, 2, 3, 4, 5, 6, 7, 8] (by decide) rfl ?_
              exact g_zret (pc := 128) X hA (rfl) (⟨Rd, Rw, Rf, Rt, Rl, Ru, y17, ro, 0, rfl, rfl, (hf78_b_to2), (b_ro), (by (first | (clear b_ts b_ro b_rs b_wr; omega) | omega)), (h_Rd), (h_Rw), (h_Rf), (h_Rt), (h_Rl), (h_Ru), (by (first | (clear b_ts b_ro b_rs b_wr; omega) | omega)), (by (first | (clear b_ts b_ro b_rs b_wr; omega) | omega))⟩) (by decide) (by decide) dX4_readDoor_128
        · refine g_iconst (pc := 59) X (iI (-1)) (by rfl) dX4_readDoor_59 ?_
          refine g_goto (pc := 60) X 81 (by decide) dX4_readDoor_60 ?_
          refine g_istore_n (pc := 81) X (i := 3) rfl (by decide) (lv' := [(3, .int (iI (-1))), (2, .int (iI y9)), (1, .int (iI y2)), (0, .ref e0)]) rfl dX4_readDoor_81 ?_
          refine g_iload_n (pc := 82) X 0 rfl dX4_readDoor_82 ?_
          refine g_iconst (pc := 83) X (iI (-1)) (by rfl) dX4_readDoor_83 ?_
          refine g_icmp_neI (pc := 84) X 91 (by decide) ⟨by decide, by decide⟩ ⟨by decide, by decide⟩ dX4_readDoor_84 (fun h => absurd h (by decide)) (fun _ => ?_)
          refine g_iconst (pc := 87) X (iI (-1)) (by rfl) dX4_readDoor_87 ?_
          refine g_goto (pc := 88) X 110 (by decide) dX4_readDoor_88 ?_
          refine g_istore (pc := 110) X (by decide) (lv' := [(4, .int (iI (-1))), (3, .int (iI (-1))), (2, .int (iI y9)), (1, .int (iI y2)), (0, .ref e0)]) rfl dX4_readDoor_110 ?_
          refine g_iload (pc := 112) X 0 rfl dX4_readDoor_112 ?_
          refine g_iconst (pc := 114) X (iI (-1)) (by rfl) dX4_readDoor_114 ?_
          refine g_icmp_eqI (pc := 115) X 127 (by decide) ⟨by decide, by decide⟩ ⟨by decide, by decide⟩ dX4_readDoor_115 (fun _ => ?_) (fun h => absurd h (by decide))
          refine g_iconst (pc := 127) X (iI 0) (by rfl) dX4_readDoor_127 ?_
          refine g_ws (ws' := [cO_rri e0 4 t0 r0 y10, cO_riirrr t0 9 t_bytes ts tk t_kinds t_places t_values, cA Z t_kinds 0 401 Tk, cA Z t_values 0 401 Tv, cO_rirrrrrrirrr r0 6 w0 ro r_doors r_openingWalls r_froms r_tos r_lowers r_uppers rs r_standWalls r_standXs r_standYs, cO_rrrrrrii w0 10 w_begins w_lengths w_lefts w_rights w_leans w_leaning wn wr, cA Z w_lengths 0 8 Wl, cA Z w_lefts 0 8 Wh, cA Z w_rights 0 8 Wk, cA Z r_doors 2 8 Rd, cA Z r_openingWalls 0 8 Rw, cA Z r_froms 0 8 Rf, cA Z r_tos 0 8 Rt, cA Z r_lowers 0 8 Rl, cA Z r_uppers 0 8 Ru]) [11, 12, 13, 14, 0, 9, 10, 1, 2, 3, 4, 5, 6, 7, 8] (by decide) rfl ?_
          exact g_zret (pc := 128) X hA (rfl) (⟨Rd, Rw, Rf, Rt, Rl, Ru, y10, ro, 0, rfl, rfl, (hf50_b_to2), (b_ro), (by (first | (clear b_ts b_ro b_rs b_wr; omega) | omega)), (h_Rd), (h_Rw), (h_Rf), (h_Rt), (h_Rl), (h_Ru), (by (first | (clear b_ts b_ro b_rs b_wr; omega) | omega)), (by (first | (clear b_ts b_ro b_rs b_wr; omega) | omega))⟩) (by decide) (by decide) dX4_readDoor_128
    · refine g_iconst (pc := 33) X (iI (-1)) (by rfl) dX4_readDoor_33 ?_
      refine g_goto (pc := 34) X 53 (by decide) dX4_readDoor_34 ?_
      refine g_istore_n (pc := 53) X (i := 2) rfl (by decide) (lv' := [(2, .int (iI (-1))), (1, .int (iI y2)), (0, .ref e0)]) rfl dX4_readDoor_53 ?_
      refine g_iload_n (pc := 54) X 0 rfl dX4_readDoor_54 ?_
      refine g_iconst (pc := 55) X (iI (-1)) (by rfl) dX4_readDoor_55 ?_
      refine g_icmp_neI (pc := 56) X 63 (by decide) ⟨by decide, by decide⟩ ⟨by decide, by decide⟩ dX4_readDoor_56 (fun h => absurd h (by decide)) (fun _ => ?_)
      refine g_iconst (pc := 59) X (iI (-1)) (by rfl) dX4_readDoor_59 ?_
      refine g_goto (pc := 60) X 81 (by decide) dX4_readDoor_60 ?_
      refine g_istore_n (pc := 81) X (i := 3) rfl (by decide) (lv' := [(3, .int (iI (-1))), (2, .int (iI (-1))), (1, .int (iI y2)), (0, .ref e0)]) rfl dX4_readDoor_81 ?_
      refine g_iload_n (pc := 82) X 0 rfl dX4_readDoor_82 ?_
      refine g_iconst (pc := 83) X (iI (-1)) (by rfl) dX4_readDoor_83 ?_
      refine g_icmp_neI (pc := 84) X 91 (by decide) ⟨by decide, by decide⟩ ⟨by decide, by decide⟩ dX4_readDoor_84 (fun h => absurd h (by decide)) (fun _ => ?_)
      refine g_iconst (pc := 87) X (iI (-1)) (by rfl) dX4_readDoor_87 ?_
      refine g_goto (pc := 88) X 110 (by decide) dX4_readDoor_88 ?_
      refine g_istore (pc := 110) X (by decide) (lv' := [(4, .int (iI (-1))), (3, .int (iI (-1))), (2, .int (iI (-1))), (1, .int (iI y2)), (0, .ref e0)]) rfl dX4_readDoor_110 ?_
      refine g_iload (pc := 112) X 0 rfl dX4_readDoor_112 ?_
      refine g_iconst (pc := 114) X (iI (-1)) (by rfl) dX4_readDoor_114 ?_
      refine g_icmp_eqI (pc := 115) X 127 (by decide) ⟨by decide, by decide⟩ ⟨by decide, by decide⟩ dX4_readDoor_115 (fun _ => ?_) (fun h => absurd h (by decide))
      refine g_iconst (pc := 127) X (iI 0) (by rfl) dX4_readDoor_127 ?_
      refine g_ws (ws' := [cO_rri e0 4 t0 r0 y3, cO_riirrr t0 9 t_bytes ts tk t_kinds t_places t_values, cA Z t_kinds 0 401 Tk, cA Z t_values 0 401 Tv, cO_rirrrrrrirrr r0 6 w0 ro r_doors r_openingWalls r_froms r_tos r_lowers r_uppers rs r_standWalls r_standXs r_standYs, cO_rrrrrrii w0 10 w_begins w_lengths w_lefts w_rights w_leans w_leaning wn wr, cA Z w_lengths 0 8 Wl, cA Z w_lefts 0 8 Wh, cA Z w_rights 0 8 Wk, cA Z r_doors 2 8 Rd, cA Z r_openingWalls 0 8 Rw, cA Z r_froms 0 8 Rf, cA Z r_tos 0 8 Rt, cA Z r_lowers 0 8 Rl, cA Z r_uppers 0 8 Ru]) [11, 12, 13, 14, 0, 1, 2, 3, 4, 5, 6, 7, 8, 9, 10] (by decide) rfl ?_
      exact g_zret (pc := 128) X hA (rfl) (⟨Rd, Rw, Rf, Rt, Rl, Ru, y3, ro, 0, rfl, rfl, (hf24_b_to2), (b_ro), (by (first | (clear b_ts b_ro b_rs b_wr; omega) | omega)), (h_Rd), (h_Rw), (h_Rf), (h_Rt), (h_Rl), (h_Ru), (by (first | (clear b_ts b_ro b_rs b_wr; omega) | omega)), (by (first | (clear b_ts b_ro b_rs b_wr; omega) | omega))⟩) (by decide) (by decide) dX4_readDoor_128

set_option maxHeartbeats 4000000 in
set_option maxRecDepth 100000 in
theorem k_X4_readWindow (l : Launch) (Z : gZ) (e0 : Nat) (t0 : Nat) (r0 : Nat) (t_bytes : Nat) (t_kinds : Nat) (t_places : Nat) (t_values : Nat) (w0 : Nat) (r_doors : Nat) (r_openingWalls : Nat) (r_froms : Nat) (r_tos : Nat) (r_lowers : Nat) (r_uppers : Nat) (r_standWalls : Nat) (r_standXs : Nat) (r_standYs : Nat) (w_begins : Nat) (w_lengths : Nat) (w_lefts : Nat) (w_rights : Nat) (w_leans : Nat) (w_leaning : Nat) (Tk : Nat → Int) (Tv : Nat → Int) (Wl : Nat → Int) (Wh : Nat → Int) (Wk : Nat → Int) (Rd : Nat → Int) (Rw : Nat → Int) (Rf : Nat → Int) (Rt : Nat → Int) (Rl : Nat → Int) (Ru : Nat → Int) (to0 : Int) (ts : Int) (tk : Int) (ro : Int) (rs : Int) (wn : Int) (wr : Int) (b_to0 : 0 ≤ to0 ∧ to0 ≤ 401) (b_ts : 0 ≤ ts ∧ ts ≤ 400) (b_tk : 0 ≤ tk ∧ tk ≤ 401) (b_ro : 0 ≤ ro ∧ ro ≤ 8) (b_rs : 0 ≤ rs ∧ rs ≤ 4) (b_wn : 0 ≤ wn ∧ wn ≤ 8) (b_wr : 0 ≤ wr ∧ wr ≤ 4800) (hn : to0 < tk) (h_Tk : ∀ j, j < 401 → 0 ≤ Tk j ∧ Tk j ≤ 10) (h_Tv : ∀ j, j < 401 → 0 ≤ Tv j ∧ Tv j ≤ 100000) (h_Wl : ∀ j, j < 8 → 0 ≤ Wl j ∧ Wl j ≤ 600) (h_Wh : ∀ j, j < 8 → 0 ≤ Wh j ∧ Wh j ≤ 400) (h_Wk : ∀ j, j < 8 → 0 ≤ Wk j ∧ Wk j ≤ 400) (h_Rd : ∀ j, j < 8 → 0 ≤ Rd j ∧ Rd j ≤ 1) (h_Rw : ∀ j, j < 8 → 0 ≤ Rw j ∧ Rw j ≤ 7) (h_Rf : ∀ j, j < 8 → 0 ≤ Rf j ∧ Rf j ≤ 600) (h_Rt : ∀ j, j < 8 → 0 ≤ Rt j ∧ Rt j ≤ 600) (h_Rl : ∀ j, j < 8 → 0 ≤ Rl j ∧ Rl j ≤ 400) (h_Ru : ∀ j, j < 8 → 0 ≤ Ru j ∧ Ru j ≤ 400) : Con l Z yX4_readWindow cX4_readWindow 6 (some .boolean) 2 45 0 0 [.ref e0] [cO_rri e0 4 t0 r0 to0, cO_riirrr t0 9 t_bytes ts tk t_kinds t_places t_values, cA Z t_kinds 0 401 Tk, cA Z t_values 0 401 Tv, cO_rirrrrrrirrr r0 6 w0 ro r_doors r_openingWalls r_froms r_tos r_lowers r_uppers rs r_standWalls r_standXs r_standYs, cO_rrrrrrii w0 10 w_begins w_lengths w_lefts w_rights w_leans w_leaning wn wr, cA Z w_lengths 0 8 Wl, cA Z w_lefts 0 8 Wh, cA Z w_rights 0 8 Wk, cA Z r_doors 2 8 Rd, cA Z r_openingWalls 0 8 Rw, cA Z r_froms 0 8 Rf, cA Z r_tos 0 8 Rt, cA Z r_lowers 0 8 Rl, cA Z r_uppers 0 8 Ru] (fun r w' => ∃ (Rd2 : Nat → Int) (Rw2 : Nat → Int) (Rf2 : Nat → Int) (Rt2 : Nat → Int) (Rl2 : Nat → Int) (Ru2 : Nat → Int) (to2 : Int) (ro2 : Int) (y : Int), (r = some (.int (iI y))) ∧ (w' = [cO_rri e0 4 t0 r0 to2, cO_riirrr t0 9 t_bytes ts tk t_kinds t_places t_values, cA Z t_kinds 0 401 Tk, cA Z t_values 0 401 Tv, cO_rirrrrrrirrr r0 6 w0 ro2 r_doors r_openingWalls r_froms r_tos r_lowers r_uppers rs r_standWalls r_standXs r_standYs, cO_rrrrrrii w0 10 w_begins w_lengths w_lefts w_rights w_leans w_leaning wn wr, cA Z w_lengths 0 8 Wl, cA Z w_lefts 0 8 Wh, cA Z w_rights 0 8 Wk, cA Z r_doors 2 8 Rd2, cA Z r_openingWalls 0 8 Rw2, cA Z r_froms 0 8 Rf2, cA Z r_tos 0 8 Rt2, cA Z r_lowers 0 8 Rl2, cA Z r_uppers 0 8 Ru2]) ∧ (0 ≤ to2 ∧ to2 ≤ 401) ∧ (0 ≤ ro2 ∧ ro2 ≤ 8) ∧ (0 ≤ y ∧ y ≤ 1) ∧ (∀ j, j < 8 → 0 ≤ Rd2 j ∧ Rd2 j ≤ 1) ∧ (∀ j, j < 8 → 0 ≤ Rw2 j ∧ Rw2 j ≤ 7) ∧ (∀ j, j < 8 → 0 ≤ Rf2 j ∧ Rf2 j ≤ 600) ∧ (∀ j, j < 8 → 0 ≤ Rt2 j ∧ Rt2 j ≤ 600) ∧ (∀ j, j < 8 → 0 ≤ Rl2 j ∧ Rl2 j ≤ 400) ∧ (∀ j, j < 8 → 0 ≤ Ru2 j ∧ Ru2 j ≤ 400) ∧ (to2 ≤ tk) ∧ (to0 < to2)) := by
  refine enter (by decide) (Nat.le_of_ble_eq_true rfl) ?_
  intro p e s m args below meth c A X hnm hA
  have X : Cx p s m args meth c cX4_readWindow 6 (some .boolean) RX4 Z A := X
  refine g_as (pc' := 0) (lv' := [(0, .ref e0)]) (st' := []) (ws' := [cO_rri e0 4 t0 r0 to0, cO_riirrr t0 9 t_bytes ts tk t_kinds t_places t_values, cA Z t_kinds 0 401 Tk, cA Z t_values 0 401 Tv, cO_rirrrrrrirrr r0 6 w0 ro r_doors r_openingWalls r_froms r_tos r_lowers r_uppers rs r_standWalls r_standXs r_standYs, cO_rrrrrrii w0 10 w_begins w_lengths w_lefts w_rights w_leans w_leaning wn wr, cA Z w_lengths 0 8 Wl, cA Z w_lefts 0 8 Wh, cA Z w_rights 0 8 Wk, cA Z r_doors 2 8 Rd, cA Z r_openingWalls 0 8 Rw, cA Z r_froms 0 8 Rf, cA Z r_tos 0 8 Rt, cA Z r_lowers 0 8 Rl, cA Z r_uppers 0 8 Ru]) rfl rfl rfl rfl ?_
  refine g_aload_n (pc := 0) X 0 rfl dX4_readWindow_0 ?_
  refine g_dup (pc := 1) X rfl dX4_readWindow_1 ?_
  refine g_get (pc := 2) X inlX4 0 rfl rfl 2 (by decide) mw_12_0 rfl dX4_readWindow_2 ?_
  refine g_iconst (pc := 5) X (iI 1) (by rfl) dX4_readWindow_5 ?_
  refine g_iaddI (pc := 6) X dX4_readWindow_6 ?_
  refine g_put (pc := 7) X inlX4 tyX4_ok nmX4 0 rfl rfl 2 (by decide) mw_12_0 rfl rfl rfl (Nat.le_of_ble_eq_true rfl) (ws' := [cO_rri e0 4 t0 r0 (to0 + 1), cO_riirrr t0 9 t_bytes ts tk t_kinds t_places t_values, cA Z t_kinds 0 401 Tk, cA Z t_values 0 401 Tv, cO_rirrrrrrirrr r0 6 w0 ro r_doors r_openingWalls r_froms r_tos r_lowers r_uppers rs r_standWalls r_standXs r_standYs, cO_rrrrrrii w0 10 w_begins w_lengths w_lefts w_rights w_leans w_leaning wn wr, cA Z w_lengths 0 8 Wl, cA Z w_lefts 0 8 Wh, cA Z w_rights 0 8 Wk, cA Z r_doors 2 8 Rd, cA Z r_openingWalls 0 8 Rw, cA Z r_froms 0 8 Rf, cA Z r_tos 0 8 Rt, cA Z r_lowers 0 8 Rl, cA Z r_uppers 0 8 Ru]) rfl dX4_readWindow_7 ?_
  refine g_aload_n (pc := 10) X 0 rfl dX4_readWindow_10 ?_
  refine g_iconst (pc := 11) X (iI 0) (by rfl) dX4_readWindow_11 ?_
  refine g_aload_n (pc := 12) X 0 rfl dX4_readWindow_12 ?_
  refine g_get (pc := 13) X inlX4 0 rfl rfl 1 (by decide) mw_12_1 rfl dX4_readWindow_13 ?_
  refine g_get (pc := 16) X inlX6 4 rfl rfl 0 (by decide) mw_12_2 rfl dX4_readWindow_16 ?_
  refine g_get (pc := 19) X inlX10 5 rfl rfl 6 (by decide) mw_12_3 rfl dX4_readWindow_19 ?_
  refine g_iconst (pc := 22) X (iI 1) (by rfl) dX4_readWindow_22 ?_
  refine g_isubI (pc := 23) X dX4_readWindow_23 ?_
  refine g_callV (pc := 24) X (k_X4_readNumber l Z e0 t0 r0 t_bytes t_kinds t_places t_values Tk Tv 0 (wn - 1) (to0 + 1) ts tk (by decide) (by (first | (clear b_ts b_ro b_rs b_wr; omega) | omega)) (by (first | (clear b_ts b_ro b_rs b_wr; omega) | omega)) b_ts b_tk (h_Tk) (h_Tv)) iM_X4_readNumber mw_16_22 mw_16_23 mw_17_0 0 rfl rfl [0, 1, 2, 3] [4, 5, 6, 7, 8, 9, 10, 11, 12, 13, 14] rfl (wr := [cO_rirrrrrrirrr r0 6 w0 ro r_doors r_openingWalls r_froms r_tos r_lowers r_uppers rs r_standWalls r_standXs r_standYs, cO_rrrrrrii w0 10 w_begins w_lengths w_lefts w_rights w_leans w_leaning wn wr, cA Z w_lengths 0 8 Wl, cA Z w_lefts 0 8 Wh, cA Z w_rights 0 8 Wk, cA Z r_doors 2 8 Rd, cA Z r_openingWalls 0 8 Rw, cA Z r_froms 0 8 Rf, cA Z r_tos 0 8 Rt, cA Z r_lowers 0 8 Rl, cA Z r_uppers 0 8 Ru]) rfl (by decide) rfl rfl (Nat.le_of_ble_eq_true rfl) (by decide) dX4_readWindow_24 (fun r w' hpo => ?_)
  rcases hpo with hp0 | hp1
  · obtain ⟨rfl, rfl⟩ := hp0
    refine g_as (pc' := 27) (lv' := [(0, .ref e0)]) (st' := [.int (iI (-1))]) (ws' := [cO_rirrrrrrirrr r0 6 w0 ro r_doors r_openingWalls r_froms r_tos r_lowers r_uppers rs r_standWalls r_standXs r_standYs, cO_rrrrrrii w0 10 w_begins w_lengths w_lefts w_rights w_leans w_leaning wn wr, cA Z w_lengths 0 8 Wl, cA Z w_lefts 0 8 Wh, cA Z w_rights 0 8 Wk, cA Z r_doors 2 8 Rd, cA Z r_openingWalls 0 8 Rw, cA Z r_froms 0 8 Rf, cA Z r_tos 0 8 Rt, cA Z r_lowers 0 8 Rl, cA Z r_uppers 0 8 Ru, cO_rri e0 4 t0 r0 (to0 + 1), cO_riirrr t0 9 t_bytes ts tk t_kinds t_places t_values, cA Z t_kinds 0 401 Tk, cA Z t_values 0 401 Tv]) rfl rfl rfl rfl ?_
    refine g_istore_n (pc := 27) X (i := 1) rfl (by decide) (lv' := [(1, .int (iI (-1))), (0, .ref e0)]) rfl dX4_readWindow_27 ?_
    refine g_iload_n (pc := 28) X 0 rfl dX4_readWindow_28 ?_
    refine g_iconst (pc := 29) X (iI (-1)) (by rfl) dX4_readWindow_29 ?_
    refine g_icmp_neI (pc := 30) X 37 (by decide) ⟨by decide, by decide⟩ ⟨by decide, by decide⟩ dX4_readWindow_30 (fun h => absurd h (by decide)) (fun _ => ?_)
    refine g_iconst (pc := 33) X (iI (-1)) (by rfl) dX4_readWindow_33 ?_
    refine g_goto (pc := 34) X 53 (by decide) dX4_readWindow_34 ?_
    refine g_istore_n (pc := 53) X (i := 2) rfl (by decide) (lv' := [(2, .int (iI (-1))), (1, .int (iI (-1))), (0, .ref e0)]) rfl dX4_readWindow_53 ?_
    refine g_iload_n (pc := 54) X 0 rfl dX4_readWindow_54 ?_
    refine g_iconst (pc := 55) X (iI (-1)) (by rfl) dX4_readWindow_55 ?_
    refine g_icmp_neI (pc := 56) X 63 (by decide) ⟨by decide, by decide⟩ ⟨by decide, by decide⟩ dX4_readWindow_56 (fun h => absurd h (by decide)) (fun _ => ?_)
    refine g_iconst (pc := 59) X (iI (-1)) (by rfl) dX4_readWindow_59 ?_
    refine g_goto (pc := 60) X 81 (by decide) dX4_readWindow_60 ?_
    refine g_istore_n (pc := 81) X (i := 3) rfl (by decide) (lv' := [(3, .int (iI (-1))), (2, .int (iI (-1))), (1, .int (iI (-1))), (0, .ref e0)]) rfl dX4_readWindow_81 ?_
    refine g_iload_n (pc := 82) X 0 rfl dX4_readWindow_82 ?_
    refine g_iconst (pc := 83) X (iI (-1)) (by rfl) dX4_readWindow_83 ?_
    refine g_icmp_neI (pc := 84) X 91 (by decide) ⟨by decide, by decide⟩ ⟨by decide, by decide⟩ dX4_readWindow_84 (fun h => absurd h (by decide)) (fun _ => ?_)
    refine g_iconst (pc := 87) X (iI (-1)) (by rfl) dX4_readWindow_87 ?_
    refine g_goto (pc := 88) X 99 (by decide) dX4_readWindow_88 ?_
    refine g_istore (pc := 99) X (by decide) (lv' := [(4, .int (iI (-1))), (3, .int (iI (-1))), (2, .int (iI (-1))), (1, .int (iI (-1))), (0, .ref e0)]) rfl dX4_readWindow_99 ?_
    refine g_iload (pc := 101) X 0 rfl dX4_readWindow_101 ?_
    refine g_iconst (pc := 103) X (iI (-1)) (by rfl) dX4_readWindow_103 ?_
    refine g_icmp_neI (pc := 104) X 111 (by decide) ⟨by decide, by decide⟩ ⟨by decide, by decide⟩ dX4_readWindow_104 (fun h => absurd h (by decide)) (fun _ => ?_)
    refine g_iconst (pc := 107) X (iI (-1)) (by rfl) dX4_readWindow_107 ?_
    refine g_goto (pc := 108) X 132 (by decide) dX4_readWindow_108 ?_
    refine g_istore (pc := 132) X (by decide) (lv' := [(5, .int (iI (-1))), (4, .int (iI (-1))), (3, .int (iI (-1))), (2, .int (iI (-1))), (1, .int (iI (-1))), (0, .ref e0)]) rfl dX4_readWindow_132 ?_
    refine g_iload (pc := 134) X 0 rfl dX4_readWindow_134 ?_
    refine g_iconst (pc := 136) X (iI (-1)) (by rfl) dX4_readWindow_136 ?_
    refine g_icmp_eqI (pc := 137) X 149 (by decide) ⟨by decide, by decide⟩ ⟨by decide, by decide⟩ dX4_readWindow_137 (fun _ => ?_) (fun h => absurd h (by decide))
    refine g_iconst (pc := 149) X (iI 0) (by rfl) dX4_readWindow_149 ?_
    refine g_ws (ws' := [cO_rri e0 4 t0 r0 (to0 + 1), cO_riirrr t0 9 t_bytes ts tk t_kinds t_places t_values, cA Z t_kinds 0 401 Tk, cA Z t_values 0 401 Tv, cO_rirrrrrrirrr r0 6 w0 ro r_doors r_openingWalls r_froms r_tos r_lowers r_uppers rs r_standWalls r_standXs r_standYs, cO_rrrrrrii w0 10 w_begins w_lengths w_lefts w_rights w_leans w_leaning wn wr, cA Z w_lengths 0 8 Wl, cA Z w_lefts 0 8 Wh, cA Z w_rights 0 8 Wk, cA Z r_doors 2 8 Rd, cA Z r_openingWalls 0 8 Rw, cA Z r_froms 0 8 Rf, cA Z r_tos 0 8 Rt, cA Z r_lowers 0 8 Rl, cA Z r_uppers 0 8 Ru]) [11, 12, 13, 14, 0, 1, 2, 3, 4, 5, 6, 7, 8, 9, 10] (by decide) rfl ?_
    exact g_zret (pc := 150) X hA (rfl) (⟨Rd, Rw, Rf, Rt, Rl, Ru, (to0 + 1), ro, 0, rfl, rfl, (by (first | (clear b_ts b_ro b_rs b_wr; omega) | omega)), (b_ro), (by (first | (clear b_ts b_ro b_rs b_wr; omega) | omega)), (h_Rd), (h_Rw), (h_Rf), (h_Rt), (h_Rl), (h_Ru), (by (first | (clear b_ts b_ro b_rs b_wr; omega) | omega)), (by (first | (clear b_ts b_ro b_rs b_wr; omega) | omega))⟩) (by decide) (by decide) dX4_readWindow_150
  · refine exN_2 hp1 fun y2 y3 hz => anD_7 hz fun e_r e_w hf24_b_y hf24_b_to2 hf24_f1 hf24_f2 hf24_f3 => ?_; clear hz hp1; subst e_r; subst e_w
    refine g_as (pc' := 27) (lv' := [(0, .ref e0)]) (st' := [.int (iI y2)]) (ws' := [cO_rirrrrrrirrr r0 6 w0 ro r_doors r_openingWalls r_froms r_tos r_lowers r_uppers rs r_standWalls r_standXs r_standYs, cO_rrrrrrii w0 10 w_begins w_lengths w_lefts w_rights w_leans w_leaning wn wr, cA Z w_lengths 0 8 Wl, cA Z w_lefts 0 8 Wh, cA Z w_rights 0 8 Wk, cA Z r_doors 2 8 Rd, cA Z r_openingWalls 0 8 Rw, cA Z r_froms 0 8 Rf, cA Z r_tos 0 8 Rt, cA Z r_lowers 0 8 Rl, cA Z r_uppers 0 8 Ru, cO_rri e0 4 t0 r0 y3, cO_riirrr t0 9 t_bytes ts tk t_kinds t_places t_values, cA Z t_kinds 0 401 Tk, cA Z t_values 0 401 Tv]) rfl rfl rfl rfl ?_
    have tt5 : 0 ≤ y2 ∧ y2 ≤ 7 := by (first | (clear b_ts b_ro b_rs b_wr; omega) | omega)
    refine g_istore_n (pc := 27) X (i := 1) rfl (by decide) (lv' := [(1, .int (iI y2)), (0, .ref e0)]) rfl dX4_readWindow_27 ?_
    refine g_iload_n (pc := 28) X 0 rfl dX4_readWindow_28 ?_
    refine g_iconst (pc := 29) X (iI (-1)) (by rfl) dX4_readWindow_29 ?_
    refine g_icmp_neI (pc := 30) X 37 (by decide) (inRb hf24_b_y (by decide) (by decide)) ⟨by decide, by decide⟩ dX4_readWindow_30 (fun c30 => ?_) (fun c30 => ?_)
    · refine g_aload_n (pc := 37) X 1 rfl dX4_readWindow_37 ?_
      refine g_iconst (pc := 38) X (iI 0) (by rfl) dX4_readWindow_38 ?_
      refine g_aload_n (pc := 39) X 1 rfl dX4_readWindow_39 ?_
      refine g_get (pc := 40) X inlX4 11 rfl rfl 1 (by decide) mw_12_1 rfl dX4_readWindow_40 ?_
      refine g_get (pc := 43) X inlX6 0 rfl rfl 0 (by decide) mw_12_2 rfl dX4_readWindow_43 ?_
      refine g_iload_n (pc := 46) X 0 rfl dX4_readWindow_46 ?_
      refine g_callV (pc := 47) X (k_X10_lengthOf l Z w0 w_begins w_lengths w_lefts w_rights w_leans w_leaning Wl y2 wn wr (by (first | (clear b_ts b_ro b_rs b_wr; omega) | omega)) b_wn b_wr (h_Wl)) iM_X10_lengthOf mw_17_15 mw_17_16 mw_17_17 1 rfl rfl [1, 2] [0, 3, 4, 5, 6, 7, 8, 9, 10, 11, 12, 13, 14] rfl (wr := [cO_rirrrrrrirrr r0 6 w0 ro r_doors r_openingWalls r_froms r_tos r_lowers r_uppers rs r_standWalls r_standXs r_standYs, cA Z w_lefts 0 8 Wh, cA Z w_rights 0 8 Wk, cA Z r_doors 2 8 Rd, cA Z r_openingWalls 0 8 Rw, cA Z r_froms 0 8 Rf, cA Z r_tos 0 8 Rt, cA Z r_lowers 0 8 Rl, cA Z r_uppers 0 8 Ru, cO_rri e0 4 t0 r0 y3, cO_riirrr t0 9 t_bytes ts tk t_kinds t_places t_values, cA Z t_kinds 0 401 Tk, cA Z t_values 0 401 Tv]) rfl (by decide) rfl rfl (Nat.le_of_ble_eq_true rfl) (by decide) dX4_readWindow_47 (fun r w' hpo => ?_)
      refine exN_1 hpo fun y6 hz => anD_3 hz fun e_r e_w hf47_b_y => ?_; clear hz hpo; subst e_r; subst e_w
      refine g_as (pc' := 50) (lv' := [(1, .int (iI y2)), (0, .ref e0)]) (st' := [.int (iI y6), .int (iI 0), .ref e0]) (ws' := [cO_rirrrrrrirrr r0 6 w0 ro r_doors r_openingWalls r_froms r_tos r_lowers r_uppers rs r_standWalls r_standXs r_standYs, cA Z w_lefts 0 8 Wh, cA Z w_rights 0 8 Wk, cA Z r_doors 2 8 Rd, cA Z r_openingWalls 0 8 Rw, cA Z r_froms 0 8 Rf, cA Z r_tos 0 8 Rt, cA Z r_lowers 0 8 Rl, cA Z r_uppers 0 8 Ru, cO_rri e0 4 t0 r0 y3, cO_riirrr t0 9 t_bytes ts tk t_kinds t_places t_values, cA Z t_kinds 0 401 Tk, cA Z t_values 0 401 Tv, cO_rrrrrrii w0 10 w_begins w_lengths w_lefts w_rights w_leans w_leaning wn wr, cA Z w_lengths 0 8 Wl]) rfl rfl rfl rfl ?_
      refine g_callV (pc := 50) X (k_X4_readNumber l Z e0 t0 r0 t_bytes t_kinds t_places t_values Tk Tv 0 y6 y3 ts tk (by decide) (by (first | (clear b_ts b_ro b_rs b_wr; omega) | omega)) hf24_b_to2 b_ts b_tk (h_Tk) (h_Tv)) iM_X4_readNumber mw_16_22 mw_16_23 mw_17_0 9 rfl rfl [9, 10, 11, 12] [0, 1, 2, 3, 4, 5, 6, 7, 8, 13, 14] rfl (wr := [cO_rirrrrrrirrr r0 6 w0 ro r_doors r_openingWalls r_froms r_tos r_lowers r_uppers rs r_standWalls r_standXs r_standYs, cA Z w_lefts 0 8 Wh, cA Z w_rights 0 8 Wk, cA Z r_doors 2 8 Rd, cA Z r_openingWalls 0 8 Rw, cA Z r_froms 0 8 Rf, cA Z r_tos 0 8 Rt, cA Z r_lowers 0 8 Rl, cA Z r_uppers 0 8 Ru, cO_rrrrrrii w0 10 w_begins w_lengths w_lefts w_rights w_leans w_leaning wn wr, cA Z w_lengths 0 8 Wl]) rfl (by decide) rfl rfl (Nat.le_of_ble_eq_true rfl) (by decide) dX4_readWindow_50 (fun r w' hpo => ?_)
      rcases hpo with hp0 | hp1
      · obtain ⟨rfl, rfl⟩ := hp0
        refine g_as (pc' := 53) (lv' := [(1, .int (iI y2)), (0, .ref e0)]) (st' := [.int (iI (-1))]) (ws' := [cO_rirrrrrrirrr r0 6 w0 ro r_doors r_openingWalls r_froms r_tos r_lowers r_uppers rs r_standWalls r_standXs r_standYs, cA Z w_lefts 0 8 Wh, cA Z w_rights 0 8 Wk, cA Z r_doors 2 8 Rd, cA Z r_openingWalls 0 8 Rw, cA Z r_froms 0 8 Rf, cA Z r_tos 0 8 Rt, cA Z r_lowers 0 8 Rl, cA Z r_uppers 0 8 Ru, cO_rrrrrrii w0 10 w_begins w_lengths w_lefts w_rights w_leans w_leaning wn wr, cA Z w_lengths 0 8 Wl, cO_rri e0 4 t0 r0 y3, cO_riirrr t0 9 t_bytes ts tk t_kinds t_places t_values, cA Z t_kinds 0 401 Tk, cA Z t_values 0 401 Tv]) rfl rfl rfl rfl ?_
        refine g_istore_n (pc := 53) X (i := 2) rfl (by decide) (lv' := [(2, .int (iI (-1))), (1, .int (iI y2)), (0, .ref e0)]) rfl dX4_readWindow_53 ?_
        refine g_iload_n (pc := 54) X 0 rfl dX4_readWindow_54 ?_
        refine g_iconst (pc := 55) X (iI (-1)) (by rfl) dX4_readWindow_55 ?_
        refine g_icmp_neI (pc := 56) X 63 (by decide) ⟨by decide, by decide⟩ ⟨by decide, by decide⟩ dX4_readWindow_56 (fun h => absurd h (by decide)) (fun _ => ?_)
        refine g_iconst (pc := 59) X (iI (-1)) (by rfl) dX4_readWindow_59 ?_
        refine g_goto (pc := 60) X 81 (by decide) dX4_readWindow_60 ?_
        refine g_istore_n (pc := 81) X (i := 3) rfl (by decide) (lv' := [(3, .int (iI (-1))), (2, .int (iI (-1))), (1, .int (iI y2)), (0, .ref e0)]) rfl dX4_readWindow_81 ?_
        refine g_iload_n (pc := 82) X 0 rfl dX4_readWindow_82 ?_
        refine g_iconst (pc := 83) X (iI (-1)) (by rfl) dX4_readWindow_83 ?_
        refine g_icmp_neI (pc := 84) X 91 (by decide) ⟨by decide, by decide⟩ ⟨by decide, by decide⟩ dX4_readWindow_84 (fun h => absurd h (by decide)) (fun _ => ?_)
        refine g_iconst (pc := 87) X (iI (-1)) (by rfl) dX4_readWindow_87 ?_
        refine g_goto (pc := 88) X 99 (by decide) dX4_readWindow_88 ?_
        refine g_istore (pc := 99) X (by decide) (lv' := [(4, .int (iI (-1))), (3, .int (iI (-1))), (2, .int (iI (-1))), (1, .int (iI y2)), (0, .ref e0)]) rfl dX4_readWindow_99 ?_
        refine g_iload (pc := 101) X 0 rfl dX4_readWindow_101 ?_
        refine g_iconst (pc := 103) X (iI (-1)) (by rfl) dX4_readWindow_103 ?_
        refine g_icmp_neI (pc := 104) X 111 (by decide) ⟨by decide, by decide⟩ ⟨by decide, by decide⟩ dX4_readWindow_104 (fun h => absurd h (by decide)) (fun _ => ?_)
        refine g_iconst (pc := 107) X (iI (-1)) (by rfl) dX4_readWindow_107 ?_
        refine g_goto (pc := 108) X 132 (by decide) dX4_readWindow_108 ?_
        refine g_istore (pc := 132) X (by decide) (lv' := [(5, .int (iI (-1))), (4, .int (iI (-1))), (3, .int (iI (-1))), (2, .int (iI (-1))), (1, .int (iI y2)), (0, .ref e0)]) rfl dX4_readWindow_132 ?_
        refine g_iload (pc := 134) X 0 rfl dX4_readWindow_134 ?_
        refine g_iconst (pc := 136) X (iI (-1)) (by rfl) dX4_readWindow_136 ?_
        refine g_icmp_eqI (pc := 137) X 149 (by decide) ⟨by decide, by decide⟩ ⟨by decide, by decide⟩ dX4_readWindow_137 (fun _ => ?_) (fun h => absurd h (by decide))
        refine g_iconst (pc := 149) X (iI 0) (by rfl) dX4_readWindow_149 ?_
        refine g_ws (ws' := [cO_rri e0 4 t0 r0 y3, cO_riirrr t0 9 t_bytes ts tk t_kinds t_places t_values, cA Z t_kinds 0 401 Tk, cA Z t_values 0 401 Tv, cO_rirrrrrrirrr r0 6 w0 ro r_doors r_openingWalls r_froms r_tos r_lowers r_uppers rs r_standWalls r_standXs r_standYs, cO_rrrrrrii w0 10 w_begins w_lengths w_lefts w_rights w_leans w_leaning wn wr, cA Z w_lengths 0 8 Wl, cA Z w_lefts 0 8 Wh, cA Z w_rights 0 8 Wk, cA Z r_doors 2 8 Rd, cA Z r_openingWalls 0 8 Rw, cA Z r_froms 0 8 Rf, cA Z r_tos 0 8 Rt, cA Z r_lowers 0 8 Rl, cA Z r_uppers 0 8 Ru]) [11, 12, 13, 14, 0, 9, 10, 1, 2, 3, 4, 5, 6, 7, 8] (by decide) rfl ?_
        exact g_zret (pc := 150) X hA (rfl) (⟨Rd, Rw, Rf, Rt, Rl, Ru, y3, ro, 0, rfl, rfl, (hf24_b_to2), (b_ro), (by (first | (clear b_ts b_ro b_rs b_wr; omega) | omega)), (h_Rd), (h_Rw), (h_Rf), (h_Rt), (h_Rl), (h_Ru), (by (first | (clear b_ts b_ro b_rs b_wr; omega) | omega)), (by (first | (clear b_ts b_ro b_rs b_wr; omega) | omega))⟩) (by decide) (by decide) dX4_readWindow_150
      · refine exN_2 hp1 fun y9 y10 hz => anD_7 hz fun e_r e_w hf50_b_y hf50_b_to2 hf50_f1 hf50_f2 hf50_f3 => ?_; clear hz hp1; subst e_r; subst e_w
        refine g_as (pc' := 53) (lv' := [(1, .int (iI y2)), (0, .ref e0)]) (st' := [.int (iI y9)]) (ws' := [cO_rirrrrrrirrr r0 6 w0 ro r_doors r_openingWalls r_froms r_tos r_lowers r_uppers rs r_standWalls r_standXs r_standYs, cA Z w_lefts 0 8 Wh, cA Z w_rights 0 8 Wk, cA Z r_doors 2 8 Rd, cA Z r_openingWalls 0 8 Rw, cA Z r_froms 0 8 Rf, cA Z r_tos 0 8 Rt, cA Z r_lowers 0 8 Rl, cA Z r_uppers 0 8 Ru, cO_rrrrrrii w0 10 w_begins w_lengths w_lefts w_rights w_leans w_leaning wn wr, cA Z w_lengths 0 8 Wl, cO_rri e0 4 t0 r0 y10, cO_riirrr t0 9 t_bytes ts tk t_kinds t_places t_values, cA Z t_kinds 0 401 Tk, cA Z t_values 0 401 Tv]) rfl rfl rfl rfl ?_
        have tt12 : 0 ≤ y9 ∧ y9 ≤ 600 := by (first | (clear b_ts b_ro b_rs b_wr; omega) | omega)
        refine g_istore_n (pc := 53) X (i := 2) rfl (by decide) (lv' := [(2, .int (iI y9)), (1, .int (iI y2)), (0, .ref e0)]) rfl dX4_readWindow_53 ?_
        refine g_iload_n (pc := 54) X 0 rfl dX4_readWindow_54 ?_
        refine g_iconst (pc := 55) X (iI (-1)) (by rfl) dX4_readWindow_55 ?_
        refine g_icmp_neI (pc := 56) X 63 (by decide) (inRb hf50_b_y (by decide) (by decide)) ⟨by decide, by decide⟩ dX4_readWindow_56 (fun c56 => ?_) (fun c56 => ?_)
        · refine g_aload_n (pc := 63) X 2 rfl dX4_readWindow_63 ?_
          refine g_iload_n (pc := 64) X 0 rfl dX4_readWindow_64 ?_
          refine g_iconst (pc := 65) X (iI 1) (by rfl) dX4_readWindow_65 ?_
          refine g_iaddI (pc := 66) X dX4_readWindow_66 ?_
          refine g_aload_n (pc := 67) X 2 rfl dX4_readWindow_67 ?_
          refine g_get (pc := 68) X inlX4 11 rfl rfl 1 (by decide) mw_12_1 rfl dX4_readWindow_68 ?_
          refine g_get (pc := 71) X inlX6 0 rfl rfl 0 (by decide) mw_12_2 rfl dX4_readWindow_71 ?_
          refine g_iload_n (pc := 74) X 1 rfl dX4_readWindow_74 ?_
          refine g_callV (pc := 75) X (k_X10_lengthOf l Z w0 w_begins w_lengths w_lefts w_rights w_leans w_leaning Wl y2 wn wr (by (first | (clear b_ts b_ro b_rs b_wr; omega) | omega)) b_wn b_wr (h_Wl)) iM_X10_lengthOf mw_17_15 mw_17_16 mw_17_17 9 rfl rfl [9, 10] [0, 1, 2, 3, 4, 5, 6, 7, 8, 11, 12, 13, 14] rfl (wr := [cO_rirrrrrrirrr r0 6 w0 ro r_doors r_openingWalls r_froms r_tos r_lowers r_uppers rs r_standWalls r_standXs r_standYs, cA Z w_lefts 0 8 Wh, cA Z w_rights 0 8 Wk, cA Z r_doors 2 8 Rd, cA Z r_openingWalls 0 8 Rw, cA Z r_froms 0 8 Rf, cA Z r_tos 0 8 Rt, cA Z r_lowers 0 8 Rl, cA Z r_uppers 0 8 Ru, cO_rri e0 4 t0 r0 y10, cO_riirrr t0 9 t_bytes ts tk t_kinds t_places t_values, cA Z t_kinds 0 401 Tk, cA Z t_values 0 401 Tv]) rfl (by decide) rfl rfl (Nat.le_of_ble_eq_true rfl) (by decide) dX4_readWindow_75 (fun r w' hpo => ?_)
          refine exN_1 hpo fun y13 hz => anD_3 hz fun e_r e_w hf75_b_y => ?_; clear hz hpo; subst e_r; subst e_w
          refine g_as (pc' := 78) (lv' := [(2, .int (iI y9)), (1, .int (iI y2)), (0, .ref e0)]) (st' := [.int (iI y13), .int (iI (y9 + 1)), .ref e0]) (ws' := [cO_rirrrrrrirrr r0 6 w0 ro r_doors r_openingWalls r_froms r_tos r_lowers r_uppers rs r_standWalls r_standXs r_standYs, cA Z w_lefts 0 8 Wh, cA Z w_rights 0 8 Wk, cA Z r_doors 2 8 Rd, cA Z r_openingWalls 0 8 Rw, cA Z r_froms 0 8 Rf, cA Z r_tos 0 8 Rt, cA Z r_lowers 0 8 Rl, cA Z r_uppers 0 8 Ru, cO_rri e0 4 t0 r0 y10, cO_riirrr t0 9 t_bytes ts tk t_kinds t_places t_values, cA Z t_kinds 0 401 Tk, cA Z t_values 0 401 Tv, cO_rrrrrrii w0 10 w_begins w_lengths w_lefts w_rights w_leans w_leaning wn wr, cA Z w_lengths 0 8 Wl]) rfl rfl rfl rfl ?_
          refine g_callV (pc := 78) X (k_X4_readNumber l Z e0 t0 r0 t_bytes t_kinds t_places t_values Tk Tv (y9 + 1) y13 y10 ts tk (by (first | (clear b_ts b_ro b_rs b_wr; omega) | omega)) (by (first | (clear b_ts b_ro b_rs b_wr; omega) | omega)) hf50_b_to2 b_ts b_tk (h_Tk) (h_Tv)) iM_X4_readNumber mw_16_22 mw_16_23 mw_17_0 9 rfl rfl [9, 10, 11, 12] [0, 1, 2, 3, 4, 5, 6, 7, 8, 13, 14] rfl (wr := [cO_rirrrrrrirrr r0 6 w0 ro r_doors r_openingWalls r_froms r_tos r_lowers r_uppers rs r_standWalls r_standXs r_standYs, cA Z w_lefts 0 8 Wh, cA Z w_rights 0 8 Wk, cA Z r_doors 2 8 Rd, cA Z r_openingWalls 0 8 Rw, cA Z r_froms 0 8 Rf, cA Z r_tos 0 8 Rt, cA Z r_lowers 0 8 Rl, cA Z r_uppers 0 8 Ru, cO_rrrrrrii w0 10 w_begins w_lengths w_lefts w_rights w_leans w_leaning wn wr, cA Z w_lengths 0 8 Wl]) rfl (by decide) rfl rfl (Nat.le_of_ble_eq_true rfl) (by decide) dX4_readWindow_78 (fun r w' hpo => ?_)
          rcases hpo with hp0 | hp1
          · obtain ⟨rfl, rfl⟩ := hp0
            refine g_as (pc' := 81) (lv' := [(2, .int (iI y9)), (1, .int (iI y2)), (0, .ref e0)]) (st' := [.int (iI (-1))]) (ws' := [cO_rirrrrrrirrr r0 6 w0 ro r_doors r_openingWalls r_froms r_tos r_lowers r_uppers rs r_standWalls r_standXs r_standYs, cA Z w_lefts 0 8 Wh, cA Z w_rights 0 8 Wk, cA Z r_doors 2 8 Rd, cA Z r_openingWalls 0 8 Rw, cA Z r_froms 0 8 Rf, cA Z r_tos 0 8 Rt, cA Z r_lowers 0 8 Rl, cA Z r_uppers 0 8 Ru, cO_rrrrrrii w0 10 w_begins w_lengths w_lefts w_rights w_leans w_leaning wn wr, cA Z w_lengths 0 8 Wl, cO_rri e0 4 t0 r0 y10, cO_riirrr t0 9 t_bytes ts tk t_kinds t_places t_values, cA Z t_kinds 0 401 Tk, cA Z t_values 0 401 Tv]) rfl rfl rfl rfl ?_
            refine g_istore_n (pc := 81) X (i := 3) rfl (by decide) (lv' := [(3, .int (iI (-1))), (2, .int (iI y9)), (1, .int (iI y2)), (0, .ref e0)]) rfl dX4_readWindow_81 ?_
            refine g_iload_n (pc := 82) X 0 rfl dX4_readWindow_82 ?_
            refine g_iconst (pc := 83) X (iI (-1)) (by rfl) dX4_readWindow_83 ?_
            refine g_icmp_neI (pc := 84) X 91 (by decide) ⟨by decide, by decide⟩ ⟨by decide, by decide⟩ dX4_readWindow_84 (fun h => absurd h (by decide)) (fun _ => ?_)
            refine g_iconst (pc := 87) X (iI (-1)) (by rfl) dX4_readWindow_87 ?_
            refine g_goto (pc := 88) X 99 (by decide) dX4_readWindow_88 ?_
            refine g_istore (pc := 99) X (by decide) (lv' := [(4, .int (iI (-1))), (3, .int (iI (-1))), (2, .int (iI y9)), (1, .int (iI y2)), (0, .ref e0)]) rfl dX4_readWindow_99 ?_
            refine g_iload (pc := 101) X 0 rfl dX4_readWindow_101 ?_
            refine g_iconst (pc := 103) X (iI (-1)) (by rfl) dX4_readWindow_103 ?_
            refine g_icmp_neI (pc := 104) X 111 (by decide) ⟨by decide, by decide⟩ ⟨by decide, by decide⟩ dX4_readWindow_104 (fun h => absurd h (by decide)) (fun _ => ?_)
            refine g_iconst (pc := 107) X (iI (-1)) (by rfl) dX4_readWindow_107 ?_
            refine g_goto (pc := 108) X 132 (by decide) dX4_readWindow_108 ?_
            refine g_istore (pc := 132) X (by decide) (lv' := [(5, .int (iI (-1))), (4, .int (iI (-1))), (3, .int (iI (-1))), (2, .int (iI y9)), (1, .int (iI y2)), (0, .ref e0)]) rfl dX4_readWindow_132 ?_
            refine g_iload (pc := 134) X 0 rfl dX4_readWindow_134 ?_
            refine g_iconst (pc := 136) X (iI (-1)) (by rfl) dX4_readWindow_136 ?_
            refine g_icmp_eqI (pc := 137) X 149 (by decide) ⟨by decide, by decide⟩ ⟨by decide, by decide⟩ dX4_readWindow_137 (fun _ => ?_) (fun h => absurd h (by decide))
            refine g_iconst (pc := 149) X (iI 0) (by rfl) dX4_readWindow_149 ?_
            refine g_ws (ws' := [cO_rri e0 4 t0 r0 y10, cO_riirrr t0 9 t_bytes ts tk t_kinds t_places t_values, cA Z t_kinds 0 401 Tk, cA Z t_values 0 401 Tv, cO_rirrrrrrirrr r0 6 w0 ro r_doors r_openingWalls r_froms r_tos r_lowers r_uppers rs r_standWalls r_standXs r_standYs, cO_rrrrrrii w0 10 w_begins w_lengths w_lefts w_rights w_leans w_leaning wn wr, cA Z w_lengths 0 8 Wl, cA Z w_lefts 0 8 Wh, cA Z w_rights 0 8 Wk, cA Z r_doors 2 8 Rd, cA Z r_openingWalls 0 8 Rw, cA Z r_froms 0 8 Rf, cA Z r_tos 0 8 Rt, cA Z r_lowers 0 8 Rl, cA Z r_uppers 0 8 Ru]) [11, 12, 13, 14, 0, 9, 10, 1, 2, 3, 4, 5, 6, 7, 8] (by decide) rfl ?_
            exact g_zret (pc := 150) X hA (rfl) (⟨Rd, Rw, Rf, Rt, Rl, Ru, y10, ro, 0, rfl, rfl, (hf50_b_to2), (b_ro), (by (first | (clear b_ts b_ro b_rs b_wr; omega) | omega)), (h_Rd), (h_Rw), (h_Rf), (h_Rt), (h_Rl), (h_Ru), (by (first | (clear b_ts b_ro b_rs b_wr; omega) | omega)), (by (first | (clear b_ts b_ro b_rs b_wr; omega) | omega))⟩) (by decide) (by decide) dX4_readWindow_150
          · refine exN_2 hp1 fun y16 y17 hz => anD_7 hz fun e_r e_w hf78_b_y hf78_b_to2 hf78_f1 hf78_f2 hf78_f3 => ?_; clear hz hp1; subst e_r; subst e_w
            refine g_as (pc' := 81) (lv' := [(2, .int (iI y9)), (1, .int (iI y2)), (0, .ref e0)]) (st' := [.int (iI y16)]) (ws' := [cO_rirrrrrrirrr r0 6 w0 ro r_doors r_openingWalls r_froms r_tos r_lowers r_uppers rs r_standWalls r_standXs r_standYs, cA Z w_lefts 0 8 Wh, cA Z w_rights 0 8 Wk, cA Z r_doors 2 8 Rd, cA Z r_openingWalls 0 8 Rw, cA Z r_froms 0 8 Rf, cA Z r_tos 0 8 Rt, cA Z r_lowers 0 8 Rl, cA Z r_uppers 0 8 Ru, cO_rrrrrrii w0 10 w_begins w_lengths w_lefts w_rights w_leans w_leaning wn wr, cA Z w_lengths 0 8 Wl, cO_rri e0 4 t0 r0 y17, cO_riirrr t0 9 t_bytes ts tk t_kinds t_places t_values, cA Z t_kinds 0 401 Tk, cA Z t_values 0 401 Tv]) rfl rfl rfl rfl ?_
            have tt19 : 0 ≤ y16 ∧ y16 ≤ 600 := by (first | (clear b_ts b_ro b_rs b_wr; omega) | omega)
            refine g_istore_n (pc := 81) X (i := 3) rfl (by decide) (lv' := [(3, .int (iI y16)), (2, .int (iI y9)), (1, .int (iI y2)), (0, .ref e0)]) rfl dX4_readWindow_81 ?_
            refine g_iload_n (pc := 82) X 0 rfl dX4_readWindow_82 ?_
            refine g_iconst (pc := 83) X (iI (-1)) (by rfl) dX4_readWindow_83 ?_
            refine g_icmp_neI (pc := 84) X 91 (by decide) (inRb hf78_b_y (by decide) (by decide)) ⟨by decide, by decide⟩ dX4_readWindow_84 (fun c84 => ?_) (fun c84 => ?_)
            · refine g_aload_n (pc := 91) X 3 rfl dX4_readWindow_91 ?_
              refine g_iconst (pc := 92) X (iI 1) (by rfl) dX4_readWindow_92 ?_
              refine g_sipush (pc := 93) X (iI 300) (by decide) dX4_readWindow_93 ?_
              refine g_callV (pc := 96) X (k_X4_readNumber l Z e0 t0 r0 t_bytes t_kinds t_places t_values Tk Tv 1 300 y17 ts tk (by decide) (by decide) hf78_b_to2 b_ts b_tk (h_Tk) (h_Tv)) iM_X4_readNumber mw_16_22 mw_16_23 mw_17_0 11 rfl rfl [11, 12, 13, 14] [0, 1, 2, 3, 4, 5, 6, 7, 8, 9, 10] rfl (wr := [cO_rirrrrrrirrr r0 6 w0 ro r_doors r_openingWalls r_froms r_tos r_lowers r_uppers rs r_standWalls r_standXs r_standYs, cA Z w_lefts 0 8 Wh, cA Z w_rights 0 8 Wk, cA Z r_doors 2 8 Rd, cA Z r_openingWalls 0 8 Rw, cA Z r_froms 0 8 Rf, cA Z r_tos 0 8 Rt, cA Z r_lowers 0 8 Rl, cA Z r_uppers 0 8 Ru, cO_rrrrrrii w0 10 w_begins w_lengths w_lefts w_rights w_leans w_leaning wn wr, cA Z w_lengths 0 8 Wl]) rfl (by decide) rfl rfl (Nat.le_of_ble_eq_true rfl) (by decide) dX4_readWindow_96 (fun r w' hpo => ?_)
              rcases hpo with hp0 | hp1
              · obtain ⟨rfl, rfl⟩ := hp0
                refine g_as (pc' := 99) (lv' := [(3, .int (iI y16)), (2, .int (iI y9)), (1, .int (iI y2)), (0, .ref e0)]) (st' := [.int (iI (-1))]) (ws' := [cO_rirrrrrrirrr r0 6 w0 ro r_doors r_openingWalls r_froms r_tos r_lowers r_uppers rs r_standWalls r_standXs r_standYs, cA Z w_lefts 0 8 Wh, cA Z w_rights 0 8 Wk, cA Z r_doors 2 8 Rd, cA Z r_openingWalls 0 8 Rw, cA Z r_froms 0 8 Rf, cA Z r_tos 0 8 Rt, cA Z r_lowers 0 8 Rl, cA Z r_uppers 0 8 Ru, cO_rrrrrrii w0 10 w_begins w_lengths w_lefts w_rights w_leans w_leaning wn wr, cA Z w_lengths 0 8 Wl, cO_rri e0 4 t0 r0 y17, cO_riirrr t0 9 t_bytes ts tk t_kinds t_places t_values, cA Z t_kinds 0 401 Tk, cA Z t_values 0 401 Tv]) rfl rfl rfl rfl ?_
                refine g_istore (pc := 99) X (by decide) (lv' := [(4, .int (iI (-1))), (3, .int (iI y16)), (2, .int (iI y9)), (1, .int (iI y2)), (0, .ref e0)]) rfl dX4_readWindow_99 ?_
                refine g_iload (pc := 101) X 0 rfl dX4_readWindow_101 ?_
                refine g_iconst (pc := 103) X (iI (-1)) (by rfl) dX4_readWindow_103 ?_
                refine g_icmp_neI (pc := 104) X 111 (by decide) ⟨by decide, by decide⟩ ⟨by decide, by decide⟩ dX4_readWindow_104 (fun h => absurd h (by decide)) (fun _ => ?_)
                refine g_iconst (pc := 107) X (iI (-1)) (by rfl) dX4_readWindow_107 ?_
                refine g_goto (pc := 108) X 132 (by decide) dX4_readWindow_108 ?_
                refine g_istore (pc := 132) X (by decide) (lv' := [(5, .int (iI (-1))), (4, .int (iI (-1))), (3, .int (iI y16)), (2, .int (iI y9)), (1, .int (iI y2)), (0, .ref e0)]) rfl dX4_readWindow_132 ?_
                refine g_iload (pc := 134) X 0 rfl dX4_readWindow_134 ?_
                refine g_iconst (pc := 136) X (iI (-1)) (by rfl) dX4_readWindow_136 ?_
                refine g_icmp_eqI (pc := 137) X 149 (by decide) ⟨by decide, by decide⟩ ⟨by decide, by decide⟩ dX4_readWindow_137 (fun _ => ?_) (fun h => absurd h (by decide))
                refine g_iconst (pc := 149) X (iI 0) (by rfl) dX4_readWindow_149 ?_
                refine g_ws (ws' := [cO_rri e0 4 t0 r0 y17, cO_riirrr t0 9 t_bytes ts tk t_kinds t_places t_values, cA Z t_kinds 0 401 Tk, cA Z t_values 0 401 Tv, cO_rirrrrrrirrr r0 6 w0 ro r_doors r_openingWalls r_froms r_tos r_lowers r_uppers rs r_standWalls r_standXs r_standYs, cO_rrrrrrii w0 10 w_begins w_lengths w_lefts w_rights w_leans w_leaning wn wr, cA Z w_lengths 0 8 Wl, cA Z w_lefts 0 8 Wh, cA Z w_rights 0 8 Wk, cA Z r_doors 2 8 Rd, cA Z r_openingWalls 0 8 Rw, cA Z r_froms 0 8 Rf, cA Z r_tos 0 8 Rt, cA Z r_lowers 0 8 Rl, cA Z r_uppers 0 8 Ru]) [11, 12, 13, 14, 0, 9, 10, 1, 2, 3, 4, 5, 6, 7, 8] (by decide) rfl ?_
                exact g_zret (pc := 150) X hA (rfl) (⟨Rd, Rw, Rf, Rt, Rl, Ru, y17, ro, 0, rfl, rfl, (hf78_b_to2), (b_ro), (by (first | (clear b_ts b_ro b_rs b_wr; omega) | omega)), (h_Rd), (h_Rw), (h_Rf), (h_Rt), (h_Rl), (h_Ru), (by (first | (clear b_ts b_ro b_rs b_wr; omega) | omega)), (by (first | (clear b_ts b_ro b_rs b_wr; omega) | omega))⟩) (by decide) (by decide) dX4_readWindow_150
              · refine exN_2 hp1 fun y21 y22 hz => anD_7 hz fun e_r e_w hf96_b_y hf96_b_to2 hf96_f1 hf96_f2 hf96_f3 => ?_; clear hz hp1; subst e_r; subst e_w
                refine g_as (pc' := 99) (lv' := [(3, .int (iI y16)), (2, .int (iI y9)), (1, .int (iI y2)), (0, .ref e0)]) (st' := [.int (iI y21)]) (ws' := [cO_rirrrrrrirrr r0 6 w0 ro r_doors r_openingWalls r_froms r_tos r_lowers r_uppers rs r_standWalls r_standXs r_standYs, cA Z w_lefts 0 8 Wh, cA Z w_rights 0 8 Wk, cA Z r_doors 2 8 Rd, cA Z r_openingWalls 0 8 Rw, cA Z r_froms 0 8 Rf, cA Z r_tos 0 8 Rt, cA Z r_lowers 0 8 Rl, cA Z r_uppers 0 8 Ru, cO_rrrrrrii w0 10 w_begins w_lengths w_lefts w_rights w_leans w_leaning wn wr, cA Z w_lengths 0 8 Wl, cO_rri e0 4 t0 r0 y22, cO_riirrr t0 9 t_bytes ts tk t_kinds t_places t_values, cA Z t_kinds 0 401 Tk, cA Z t_values 0 401 Tv]) rfl rfl rfl rfl ?_
                have tt24 : 1 ≤ y21 ∧ y21 ≤ 300 := by (first | (clear b_ts b_ro b_rs b_wr; omega) | omega)
                refine g_istore (pc := 99) X (by decide) (lv' := [(4, .int (iI y21)), (3, .int (iI y16)), (2, .int (iI y9)), (1, .int (iI y2)), (0, .ref e0)]) rfl dX4_readWindow_99 ?_
                refine g_iload (pc := 101) X 0 rfl dX4_readWindow_101 ?_
                refine g_iconst (pc := 103) X (iI (-1)) (by rfl) dX4_readWindow_103 ?_
                refine g_icmp_neI (pc := 104) X 111 (by decide) (inRb hf96_b_y (by decide) (by decide)) ⟨by decide, by decide⟩ dX4_readWindow_104 (fun c104 => ?_) (fun c104 => ?_)
                · refine g_aload_n (pc := 111) X 4 rfl dX4_readWindow_111 ?_
                  refine g_iload (pc := 112) X 0 rfl dX4_readWindow_112 ?_
                  refine g_iconst (pc := 114) X (iI 1) (by rfl) dX4_readWindow_114 ?_
                  refine g_iaddI (pc := 115) X dX4_readWindow_115 ?_
                  refine g_aload_n (pc := 116) X 4 rfl dX4_readWindow_116 ?_
                  refine g_get (pc := 117) X inlX4 11 rfl rfl 1 (by decide) mw_12_1 rfl dX4_readWindow_117 ?_
                  refine g_get (pc := 120) X inlX6 0 rfl rfl 0 (by decide) mw_12_2 rfl dX4_readWindow_120 ?_
                  refine g_iload_n (pc := 123) X 3 rfl dX4_readWindow_123 ?_
                  refine g_callV (pc := 124) X (k_X10_lesserHeightOf l Z w0 w_begins w_lengths w_lefts w_rights w_leans w_leaning Wh Wk y2 wn wr (by (first | (clear b_ts b_ro b_rs b_wr; omega) | omega)) b_wn b_wr (h_Wh) (h_Wk)) iM_X10_lesserHeightOf mw_17_23 mw_18_0 mw_18_1 9 rfl rfl [9, 1, 2] [0, 3, 4, 5, 6, 7, 8, 10, 11, 12, 13, 14] rfl (wr := [cO_rirrrrrrirrr r0 6 w0 ro r_doors r_openingWalls r_froms r_tos r_lowers r_uppers rs r_standWalls r_standXs r_standYs, cA Z r_doors 2 8 Rd, cA Z r_openingWalls 0 8 Rw, cA Z r_froms 0 8 Rf, cA Z r_tos 0 8 Rt, cA Z r_lowers 0 8 Rl, cA Z r_uppers 0 8 Ru, cA Z w_lengths 0 8 Wl, cO_rri e0 4 t0 r0 y22, cO_riirrr t0 9 t_bytes ts tk t_kinds t_places t_values, cA Z t_kinds 0 401 Tk, cA Z t_values 0 401 Tv]) rfl (by decide) rfl rfl (Nat.le_of_ble_eq_true rfl) (by decide) dX4_readWindow_124 (fun r w' hpo => ?_)
                  refine exN_1 hpo fun y25 hz => anD_3 hz fun e_r e_w hf124_b_y => ?_; clear hz hpo; subst e_r; subst e_w
                  refine g_as (pc' := 127) (lv' := [(4, .int (iI y21)), (3, .int (iI y16)), (2, .int (iI y9)), (1, .int (iI y2)), (0, .ref e0)]) (st' := [.int (iI y25), .int (iI (y21 + 1)), .ref e0]) (ws' := [cO_rirrrrrrirrr r0 6 w0 ro r_doors r_openingWalls r_froms r_tos r_lowers r_uppers rs r_standWalls r_standXs r_standYs, cA Z r_doors 2 8 Rd, cA Z r_openingWalls 0 8 Rw, cA Z r_froms 0 8 Rf, cA Z r_tos 0 8 Rt, cA Z r_lowers 0 8 Rl, cA Z r_uppers 0 8 Ru, cA Z w_lengths 0 8 Wl, cO_rri e0 4 t0 r0 y22, cO_riirrr t0 9 t_bytes ts tk t_kinds t_places t_values, cA Z t_kinds 0 401 Tk, cA Z t_values 0 401 Tv, cO_rrrrrrii w0 10 w_begins w_lengths w_lefts w_rights w_leans w_leaning wn wr, cA Z w_lefts 0 8 Wh, cA Z w_rights 0 8 Wk]) rfl rfl rfl rfl ?_
                  refine g_iconst (pc := 127) X (iI 1) (by rfl) dX4_readWindow_127 ?_
                  refine g_isubI (pc := 128) X dX4_readWindow_128 ?_
                  refine g_callV (pc := 129) X (k_X4_readNumber l Z e0 t0 r0 t_bytes t_kinds t_places t_values Tk Tv (y21 + 1) (y25 - 1) y22 ts tk (by (first | (clear b_ts b_ro b_rs b_wr; omega) | omega)) (by (first | (clear b_ts b_ro b_rs b_wr; omega) | omega)) hf96_b_to2 b_ts b_tk (h_Tk) (h_Tv)) iM_X4_readNumber mw_16_22 mw_16_23 mw_17_0 8 rfl rfl [8, 9, 10, 11] [0, 1, 2, 3, 4, 5, 6, 7, 12, 13, 14] rfl (wr := [cO_rirrrrrrirrr r0 6 w0 ro r_doors r_openingWalls r_froms r_tos r_lowers r_uppers rs r_standWalls r_standXs r_standYs, cA Z r_doors 2 8 Rd, cA Z r_openingWalls 0 8 Rw, cA Z r_froms 0 8 Rf, cA Z r_tos 0 8 Rt, cA Z r_lowers 0 8 Rl, cA Z r_uppers 0 8 Ru, cA Z w_lengths 0 8 Wl, cO_rrrrrrii w0 10 w_begins w_lengths w_lefts w_rights w_leans w_leaning wn wr, cA Z w_lefts 0 8 Wh, cA Z w_rights 0 8 Wk]) rfl (by decide) rfl rfl (Nat.le_of_ble_eq_true rfl) (by decide) dX4_readWindow_129 (fun r w' hpo => ?_)
                  rcases hpo with hp0 | hp1
                  · obtain ⟨rfl, rfl⟩ := hp0
                    refine g_as (pc' := 132) (lv' := [(4, .int (iI y21)), (3, .int (iI y16)), (2, .int (iI y9)), (1, .int (iI y2)), (0, .ref e0)]) (st' := [.int (iI (-1))]) (ws' := [cO_rirrrrrrirrr r0 6 w0 ro r_doors r_openingWalls r_froms r_tos r_lowers r_uppers rs r_standWalls r_standXs r_standYs, cA Z r_doors 2 8 Rd, cA Z r_openingWalls 0 8 Rw, cA Z r_froms 0 8 Rf, cA Z r_tos 0 8 Rt, cA Z r_lowers 0 8 Rl, cA Z r_uppers 0 8 Ru, cA Z w_lengths 0 8 Wl, cO_rrrrrrii w0 10 w_begins w_lengths w_lefts w_rights w_leans w_leaning wn wr, cA Z w_lefts 0 8 Wh, cA Z w_rights 0 8 Wk, cO_rri e0 4 t0 r0 y22, cO_riirrr t0 9 t_bytes ts tk t_kinds t_places t_values, cA Z t_kinds 0 401 Tk, cA Z t_values 0 401 Tv]) rfl rfl rfl rfl ?_
                    refine g_istore (pc := 132) X (by decide) (lv' := [(5, .int (iI (-1))), (4, .int (iI y21)), (3, .int (iI y16)), (2, .int (iI y9)), (1, .int (iI y2)), (0, .ref e0)]) rfl dX4_readWindow_132 ?_
                    refine g_iload (pc := 134) X 0 rfl dX4_readWindow_134 ?_
                    refine g_iconst (pc := 136) X (iI (-1)) (by rfl) dX4_readWindow_136 ?_
                    refine g_icmp_eqI (pc := 137) X 149 (by decide) ⟨by decide, by decide⟩ ⟨by decide, by decide⟩ dX4_readWindow_137 (fun _ => ?_) (fun h => absurd h (by decide))
                    refine g_iconst (pc := 149) X (iI 0) (by rfl) dX4_readWindow_149 ?_
                    refine g_ws (ws' := [cO_rri e0 4 t0 r0 y22, cO_riirrr t0 9 t_bytes ts tk t_kinds t_places t_values, cA Z t_kinds 0 401 Tk, cA Z t_values 0 401 Tv, cO_rirrrrrrirrr r0 6 w0 ro r_doors r_openingWalls r_froms r_tos r_lowers r_uppers rs r_standWalls r_standXs r_standYs, cO_rrrrrrii w0 10 w_begins w_lengths w_lefts w_rights w_leans w_leaning wn wr, cA Z w_lengths 0 8 Wl, cA Z w_lefts 0 8 Wh, cA Z w_rights 0 8 Wk, cA Z r_doors 2 8 Rd, cA Z r_openingWalls 0 8 Rw, cA Z r_froms 0 8 Rf, cA Z r_tos 0 8 Rt, cA Z r_lowers 0 8 Rl, cA Z r_uppers 0 8 Ru]) [11, 12, 13, 14, 0, 8, 7, 9, 10, 1, 2, 3, 4, 5, 6] (by decide) rfl ?_
                    exact g_zret (pc := 150) X hA (rfl) (⟨Rd, Rw, Rf, Rt, Rl, Ru, y22, ro, 0, rfl, rfl, (hf96_b_to2), (b_ro), (by (first | (clear b_ts b_ro b_rs b_wr; omega) | omega)), (h_Rd), (h_Rw), (h_Rf), (h_Rt), (h_Rl), (h_Ru), (by (first | (clear b_ts b_ro b_rs b_wr; omega) | omega)), (by (first | (clear b_ts b_ro b_rs b_wr; omega) | omega))⟩) (by decide) (by decide) dX4_readWindow_150
                  · refine exN_2 hp1 fun y28 y29 hz => anD_7 hz fun e_r e_w hf129_b_y hf129_b_to2 hf129_f1 hf129_f2 hf129_f3 => ?_; clear hz hp1; subst e_r; subst e_w
                    refine g_as (pc' := 132) (lv' := [(4, .int (iI y21)), (3, .int (iI y16)), (2, .int (iI y9)), (1, .int (iI y2)), (0, .ref e0)]) (st' := [.int (iI y28)]) (ws' := [cO_rirrrrrrirrr r0 6 w0 ro r_doors r_openingWalls r_froms r_tos r_lowers r_uppers rs r_standWalls r_standXs r_standYs, cA Z r_doors 2 8 Rd, cA Z r_openingWalls 0 8 Rw, cA Z r_froms 0 8 Rf, cA Z r_tos 0 8 Rt, cA Z r_lowers 0 8 Rl, cA Z r_uppers 0 8 Ru, cA Z w_lengths 0 8 Wl, cO_rrrrrrii w0 10 w_begins w_lengths w_lefts w_rights w_leans w_leaning wn wr, cA Z w_lefts 0 8 Wh, cA Z w_rights 0 8 Wk, cO_rri e0 4 t0 r0 y29, cO_riirrr t0 9 t_bytes ts tk t_kinds t_places t_values, cA Z t_kinds 0 401 Tk, cA Z t_values 0 401 Tv]) rfl rfl rfl rfl ?_
                    have tt31 : 0 ≤ y28 ∧ y28 ≤ 400 := by (first | (clear b_ts b_ro b_rs b_wr; omega) | omega)
                    refine g_istore (pc := 132) X (by decide) (lv' := [(5, .int (iI y28)), (4, .int (iI y21)), (3, .int (iI y16)), (2, .int (iI y9)), (1, .int (iI y2)), (0, .ref e0)]) rfl dX4_readWindow_132 ?_
                    refine g_iload (pc := 134) X 0 rfl dX4_readWindow_134 ?_
                    refine g_iconst (pc := 136) X (iI (-1)) (by rfl) dX4_readWindow_136 ?_
                    refine g_icmp_eqI (pc := 137) X 149 (by decide) (inRb hf129_b_y (by decide) (by decide)) ⟨by decide, by decide⟩ dX4_readWindow_137 (fun c137 => ?_) (fun c137 => ?_)
                    · refine g_iconst (pc := 149) X (iI 0) (by rfl) dX4_readWindow_149 ?_
                      refine g_ws (ws' := [cO_rri e0 4 t0 r0 y29, cO_riirrr t0 9 t_bytes ts tk t_kinds t_places t_values, cA Z t_kinds 0 401 Tk, cA Z t_values 0 401 Tv, cO_rirrrrrrirrr r0 6 w0 ro r_doors r_openingWalls r_froms r_tos r_lowers r_uppers rs r_standWalls r_standXs r_standYs, cO_rrrrrrii w0 10 w_begins w_lengths w_lefts w_rights w_leans w_leaning wn wr, cA Z w_lengths 0 8 Wl, cA Z w_lefts 0 8 Wh, cA Z w_rights 0 8 Wk, cA Z r_doors 2 8 Rd, cA Z r_openingWalls 0 8 Rw, cA Z r_froms 0 8 Rf, cA Z r_tos 0 8 Rt, cA Z r_lowers 0 8 Rl, cA Z r_uppers 0 8 Ru]) [11, 12, 13, 14, 0, 8, 7, 9, 10, 1, 2, 3, 4, 5, 6] (by decide) rfl ?_
                      exact g_zret (pc := 150) X hA (rfl) (⟨Rd, Rw, Rf, Rt, Rl, Ru, y29, ro, 0, rfl, rfl, (hf129_b_to2), (b_ro), (by (first | (clear b_ts b_ro b_rs b_wr; omega) | omega)), (h_Rd), (h_Rw), (h_Rf), (h_Rt), (h_Rl), (h_Ru), (by (first | (clear b_ts b_ro b_rs b_wr; omega) | omega)), (by (first | (clear b_ts b_ro b_rs b_wr; omega) | omega))⟩) (by decide) (by decide) dX4_readWindow_150
                    · refine g_aload_n (pc := 140) X 5 rfl dX4_readWindow_140 ?_
                      refine g_bipush (pc := 141) X (iI 8) (by decide) dX4_readWindow_141 ?_
                      refine g_callV (pc := 143) X (k_X4_readSign l Z e0 t0 r0 t_bytes t_kinds t_places t_values Tk 8 y29 ts tk (by decide) hf129_b_to2 b_ts b_tk (h_Tk)) iM_X4_readSign mw_17_3 mw_17_4 mw_17_5 11 rfl rfl [11, 12, 13] [0, 1, 2, 3, 4, 5, 6, 7, 8, 9, 10, 14] rfl (wr := [cO_rirrrrrrirrr r0 6 w0 ro r_doors r_openingWalls r_froms r_tos r_lowers r_uppers rs r_standWalls r_standXs r_standYs, cA Z r_doors 2 8 Rd, cA Z r_openingWalls 0 8 Rw, cA Z r_froms 0 8 Rf, cA Z r_tos 0 8 Rt, cA Z r_lowers 0 8 Rl, cA Z r_uppers 0 8 Ru, cA Z w_lengths 0 8 Wl, cO_rrrrrrii w0 10 w_begins w_lengths w_lefts w_rights w_leans w_leaning wn wr, cA Z w_lefts 0 8 Wh, cA Z w_rights 0 8 Wk, cA Z t_values 0 401 Tv]) rfl (by decide) rfl rfl (Nat.le_of_ble_eq_true rfl) (by decide) dX4_readWindow_143 (fun r w' hpo => ?_)
                      rcases hpo with hp0 | hp1
                      · obtain ⟨rfl, rfl⟩ := hp0
                        refine g_as (pc' := 146) (lv' := [(5, .int (iI y28)), (4, .int (iI y21)), (3, .int (iI y16)), (2, .int (iI y9)), (1, .int (iI y2)), (0, .ref e0)]) (st' := [.int (iI 0)]) (ws' := [cO_rirrrrrrirrr r0 6 w0 ro r_doors r_openingWalls r_froms r_tos r_lowers r_uppers rs r_standWalls r_standXs r_standYs, cA Z r_doors 2 8 Rd, cA Z r_openingWalls 0 8 Rw, cA Z r_froms 0 8 Rf, cA Z r_tos 0 8 Rt, cA Z r_lowers 0 8 Rl, cA Z r_uppers 0 8 Ru, cA Z w_lengths 0 8 Wl, cO_rrrrrrii w0 10 w_begins w_lengths w_lefts w_rights w_leans w_leaning wn wr, cA Z w_lefts 0 8 Wh, cA Z w_rights 0 8 Wk, cA Z t_values 0 401 Tv, cO_rri e0 4 t0 r0 y29, cO_riirrr t0 9 t_bytes ts tk t_kinds t_places t_values, cA Z t_kinds 0 401 Tk]) rfl rfl rfl rfl ?_
                        refine g_if_neI (pc := 146) X 151 (by decide) ⟨by decide, by decide⟩ dX4_readWindow_146 (fun h => absurd h (by decide)) (fun _ => ?_)
                        refine g_iconst (pc := 149) X (iI 0) (by rfl) dX4_readWindow_149 ?_
                        refine g_ws (ws' := [cO_rri e0 4 t0 r0 y29, cO_riirrr t0 9 t_bytes ts tk t_kinds t_places t_values, cA Z t_kinds 0 401 Tk, cA Z t_values 0 401 Tv, cO_rirrrrrrirrr r0 6 w0 ro r_doors r_openingWalls r_froms r_tos r_lowers r_uppers rs r_standWalls r_standXs r_standYs, cO_rrrrrrii w0 10 w_begins w_lengths w_lefts w_rights w_leans w_leaning wn wr, cA Z w_lengths 0 8 Wl, cA Z w_lefts 0 8 Wh, cA Z w_rights 0 8 Wk, cA Z r_doors 2 8 Rd, cA Z r_openingWalls 0 8 Rw, cA Z r_froms 0 8 Rf, cA Z r_tos 0 8 Rt, cA Z r_lowers 0 8 Rl, cA Z r_uppers 0 8 Ru]) [12, 13, 14, 11, 0, 8, 7, 9, 10, 1, 2, 3, 4, 5, 6] (by decide) rfl ?_
                        exact g_zret (pc := 150) X hA (rfl) (⟨Rd, Rw, Rf, Rt, Rl, Ru, y29, ro, 0, rfl, rfl, (hf129_b_to2), (b_ro), (by (first | (clear b_ts b_ro b_rs b_wr; omega) | omega)), (h_Rd), (h_Rw), (h_Rf), (h_Rt), (h_Rl), (h_Ru), (by (first | (clear b_ts b_ro b_rs b_wr; omega) | omega)), (by (first | (clear b_ts b_ro b_rs b_wr; omega) | omega))⟩) (by decide) (by decide) dX4_readWindow_150
                      · refine exN_1 hp1 fun y33 hz => anD_5 hz fun e_r e_w hf143_b_to2 hf143_f2 hf143_f3 => ?_; clear hz hp1; subst e_r; subst e_w
                        refine g_as (pc' := 146) (lv' := [(5, .int (iI y28)), (4, .int (iI y21)), (3, .int (iI y16)), (2, .int (iI y9)), (1, .int (iI y2)), (0, .ref e0)]) (st' := [.int (iI 1)]) (ws' := [cO_rirrrrrrirrr r0 6 w0 ro r_doors r_openingWalls r_froms r_tos r_lowers r_uppers rs r_standWalls r_standXs r_standYs, cA Z r_doors 2 8 Rd, cA Z r_openingWalls 0 8 Rw, cA Z r_froms 0 8 Rf, cA Z r_tos 0 8 Rt, cA Z r_lowers 0 8 Rl, cA Z r_uppers 0 8 Ru, cA Z w_lengths 0 8 Wl, cO_rrrrrrii w0 10 w_begins w_lengths w_lefts w_rights w_leans w_leaning wn wr, cA Z w_lefts 0 8 Wh, cA Z w_rights 0 8 Wk, cA Z t_values 0 401 Tv, cO_rri e0 4 t0 r0 y33, cO_riirrr t0 9 t_bytes ts tk t_kinds t_places t_values, cA Z t_kinds 0 401 Tk]) rfl rfl rfl rfl ?_
                        refine g_if_neI (pc := 146) X 151 (by decide) ⟨by decide, by decide⟩ dX4_readWindow_146 (fun _ => ?_) (fun h => absurd h (by decide))
                        refine g_aload_n (pc := 151) X 5 rfl dX4_readWindow_151 ?_
                        refine g_get (pc := 152) X inlX4 12 rfl rfl 1 (by decide) mw_12_1 rfl dX4_readWindow_152 ?_
                        refine g_iconst (pc := 155) X (iI 0) (by rfl) dX4_readWindow_155 ?_
                        refine g_iload_n (pc := 156) X 4 rfl dX4_readWindow_156 ?_
                        refine g_iload_n (pc := 157) X 3 rfl dX4_readWindow_157 ?_
                        refine g_iload_n (pc := 158) X 2 rfl dX4_readWindow_158 ?_
                        refine g_iload (pc := 159) X 1 rfl dX4_readWindow_159 ?_
                        refine g_iload (pc := 161) X 0 rfl dX4_readWindow_161 ?_
                        refine g_callV (pc := 163) X (k_X6_addOpening l Z r0 w0 r_doors r_openingWalls r_froms r_tos r_lowers r_uppers r_standWalls r_standXs r_standYs Rd Rw Rf Rt Rl Ru 0 y2 y9 y16 y21 y28 ro rs (by decide) (by (first | (clear b_ts b_ro b_rs b_wr; omega) | omega)) (by (first | (clear b_ts b_ro b_rs b_wr; omega) | omega)) (by (first | (clear b_ts b_ro b_rs b_wr; omega) | omega)) (by (first | (clear b_ts b_ro b_rs b_wr; omega) | omega)) (by (first | (clear b_ts b_ro b_rs b_wr; omega) | omega)) b_ro b_rs (h_Rd) (h_Rw) (h_Rf) (h_Rt) (h_Rl) (h_Ru)) iM_X6_addOpening mw_18_4 mw_18_5 mw_18_6 0 rfl rfl [0, 1, 2, 3, 4, 5, 6] [7, 8, 9, 10, 11, 12, 13, 14] rfl (wr := [cA Z w_lengths 0 8 Wl, cO_rrrrrrii w0 10 w_begins w_lengths w_lefts w_rights w_leans w_leaning wn wr, cA Z w_lefts 0 8 Wh, cA Z w_rights 0 8 Wk, cA Z t_values 0 401 Tv, cO_rri e0 4 t0 r0 y33, cO_riirrr t0 9 t_bytes ts tk t_kinds t_places t_values, cA Z t_kinds 0 401 Tk]) rfl (by decide) rfl rfl (Nat.le_of_ble_eq_true rfl) (by decide) dX4_readWindow_163 (fun r w' hpo => ?_)
                        refine exN_7 hpo fun F35 F36 F37 F38 F39 F40 y41 hz => anD_9 hz fun e_r e_w hf163_b_ro2 hf163_h_Rd2 hf163_h_Rw2 hf163_h_Rf2 hf163_h_Rt2 hf163_h_Rl2 hf163_h_Ru2 => ?_; clear hz hpo; subst e_r; subst e_w
                        refine g_as (pc' := 166) (lv' := [(5, .int (iI y28)), (4, .int (iI y21)), (3, .int (iI y16)), (2, .int (iI y9)), (1, .int (iI y2)), (0, .ref e0)]) (st' := []) (ws' := [cA Z w_lengths 0 8 Wl, cO_rrrrrrii w0 10 w_begins w_lengths w_lefts w_rights w_leans w_leaning wn wr, cA Z w_lefts 0 8 Wh, cA Z w_rights 0 8 Wk, cA Z t_values 0 401 Tv, cO_rri e0 4 t0 r0 y33, cO_riirrr t0 9 t_bytes ts tk t_kinds t_places t_values, cA Z t_kinds 0 401 Tk, cO_rirrrrrrirrr r0 6 w0 y41 r_doors r_openingWalls r_froms r_tos r_lowers r_uppers rs r_standWalls r_standXs r_standYs, cA Z r_doors 2 8 F35, cA Z r_openingWalls 0 8 F36, cA Z r_froms 0 8 F37, cA Z r_tos 0 8 F38, cA Z r_lowers 0 8 F39, cA Z r_uppers 0 8 F40]) rfl rfl rfl rfl ?_
                        refine g_iconst (pc := 166) X (iI 1) (by rfl) dX4_readWindow_166 ?_
                        refine g_ws (ws' := [cO_rri e0 4 t0 r0 y33, cO_riirrr t0 9 t_bytes ts tk t_kinds t_places t_values, cA Z t_kinds 0 401 Tk, cA Z t_values 0 401 Tv, cO_rirrrrrrirrr r0 6 w0 y41 r_doors r_openingWalls r_froms r_tos r_lowers r_uppers rs r_standWalls r_standXs r_standYs, cO_rrrrrrii w0 10 w_begins w_lengths w_lefts w_rights w_leans w_leaning wn wr, cA Z w_lengths 0 8 Wl, cA Z w_lefts 0 8 Wh, cA Z w_rights 0 8 Wk, cA Z r_doors 2 8 F35, cA Z r_openingWalls 0 8 F36, cA Z r_froms 0 8 F37, cA Z r_tos 0 8 F38, cA Z r_lowers 0 8 F39, cA Z r_uppers 0 8 F40]) [5, 6, 7, 4, 8, 1, 0, 2, 3, 9, 10, 11, 12, 13, 14] (by decide) rfl ?_
                        exact g_zret (pc := 167) X hA (rfl) (⟨F35, F36, F37, F38, F39, F40, y33, y41, 1, rfl, rfl, (hf143_b_to2), (hf163_b_ro2), (by (first | (clear b_ts b_ro b_rs b_wr; omega) | omega)), (hf163_h_Rd2), (hf163_h_Rw2), (hf163_h_Rf2), (hf163_h_Rt2), (hf163_h_Rl2), (hf163_h_Ru2), (by (first | (clear b_ts b_ro b_rs b_wr; omega) | omega)), (by (first | (clear b_ts b_ro b_rs b_wr; omega) | omega))⟩) (by decide) (by decide) dX4_readWindow_167
                · refine g_iconst (pc := 107) X (iI (-1)) (by rfl) dX4_readWindow_107 ?_
                  refine g_goto (pc := 108) X 132 (by decide) dX4_readWindow_108 ?_
                  refine g_istore (pc := 132) X (by decide) (lv' := [(5, .int (iI (-1))), (4, .int (iI y21)), (3, .int (iI y16)), (2, .int (iI y9)), (1, .int (iI y2)), (0, .ref e0)]) rfl dX4_readWindow_132 ?_
                  refine g_iload (pc := 134) X 0 rfl dX4_readWindow_134 ?_
                  refine g_iconst (pc := 136) X (iI (-1)) (by rfl) dX4_readWindow_136 ?_
                  refine g_icmp_eqI (pc := 137) X 149 (by decide) ⟨by decide, by decide⟩ ⟨by decide, by decide⟩ dX4_readWindow_137 (fun _ => ?_) (fun h => absurd h (by decide))
                  refine g_iconst (pc := 149) X (iI 0) (by rfl) dX4_readWindow_149 ?_
                  refine g_ws (ws' := [cO_rri e0 4 t0 r0 y22, cO_riirrr t0 9 t_bytes ts tk t_kinds t_places t_values, cA Z t_kinds 0 401 Tk, cA Z t_values 0 401 Tv, cO_rirrrrrrirrr r0 6 w0 ro r_doors r_openingWalls r_froms r_tos r_lowers r_uppers rs r_standWalls r_standXs r_standYs, cO_rrrrrrii w0 10 w_begins w_lengths w_lefts w_rights w_leans w_leaning wn wr, cA Z w_lengths 0 8 Wl, cA Z w_lefts 0 8 Wh, cA Z w_rights 0 8 Wk, cA Z r_doors 2 8 Rd, cA Z r_openingWalls 0 8 Rw, cA Z r_froms 0 8 Rf, cA Z r_tos 0 8 Rt, cA Z r_lowers 0 8 Rl, cA Z r_uppers 0 8 Ru]) [11, 12, 13, 14, 0, 9, 10, 1, 2, 3, 4, 5, 6, 7, 8] (by decide) rfl ?_
                  exact g_zret (pc := 150) X hA (rfl) (⟨Rd, Rw, Rf, Rt, Rl, Ru, y22, ro, 0, rfl, rfl, (hf96_b_to2), (b_ro), (by (first | (clear b_ts b_ro b_rs b_wr; omega) | omega)), (h_Rd), (h_Rw), (h_Rf), (h_Rt), (h_Rl), (h_Ru), (by (first | (clear b_ts b_ro b_rs b_wr; omega) | omega)), (by (first | (clear b_ts b_ro b_rs b_wr; omega) | omega))⟩) (by decide) (by decide) dX4_readWindow_150
            · refine g_iconst (pc := 87) X (iI (-1)) (by rfl) dX4_readWindow_87 ?_
              refine g_goto (pc := 88) X 99 (by decide) dX4_readWindow_88 ?_
              refine g_istore (pc := 99) X (by decide) (lv' := [(4, .int (iI (-1))), (3, .int (iI y16)), (2, .int (iI y9)), (1, .int (iI y2)), (0, .ref e0)]) rfl dX4_readWindow_99 ?_
              refine g_iload (pc := 101) X 0 rfl dX4_readWindow_101 ?_
              refine g_iconst (pc := 103) X (iI (-1)) (by rfl) dX4_readWindow_103 ?_
              refine g_icmp_neI (pc := 104) X 111 (by decide) ⟨by decide, by decide⟩ ⟨by decide, by decide⟩ dX4_readWindow_104 (fun h => absurd h (by decide)) (fun _ => ?_)
              refine g_iconst (pc := 107) X (iI (-1)) (by rfl) dX4_readWindow_107 ?_
              refine g_goto (pc := 108) X 132 (by decide) dX4_readWindow_108 ?_
              refine g_istore (pc := 132) X (by decide) (lv' := [(5, .int (iI (-1))), (4, .int (iI (-1))), (3, .int (iI y16)), (2, .int (iI y9)), (1, .int (iI y2)), (0, .ref e0)]) rfl dX4_readWindow_132 ?_
              refine g_iload (pc := 134) X 0 rfl dX4_readWindow_134 ?_
              refine g_iconst (pc := 136) X (iI (-1)) (by rfl) dX4_readWindow_136 ?_
              refine g_icmp_eqI (pc := 137) X 149 (by decide) ⟨by decide, by decide⟩ ⟨by decide, by decide⟩ dX4_readWindow_137 (fun _ => ?_) (fun h => absurd h (by decide))
              refine g_iconst (pc := 149) X (iI 0) (by rfl) dX4_readWindow_149 ?_
              refine g_ws (ws' := [cO_rri e0 4 t0 r0 y17, cO_riirrr t0 9 t_bytes ts tk t_kinds t_places t_values, cA Z t_kinds 0 401 Tk, cA Z t_values 0 401 Tv, cO_rirrrrrrirrr r0 6 w0 ro r_doors r_openingWalls r_froms r_tos r_lowers r_uppers rs r_standWalls r_standXs r_standYs, cO_rrrrrrii w0 10 w_begins w_lengths w_lefts w_rights w_leans w_leaning wn wr, cA Z w_lengths 0 8 Wl, cA Z w_lefts 0 8 Wh, cA Z w_rights 0 8 Wk, cA Z r_doors 2 8 Rd, cA Z r_openingWalls 0 8 Rw, cA Z r_froms 0 8 Rf, cA Z r_tos 0 8 Rt, cA Z r_lowers 0 8 Rl, cA Z r_uppers 0 8 Ru]) [11, 12, 13, 14, 0, 9, 10, 1, 2, 3, 4, 5, 6, 7, 8] (by decide) rfl ?_
              exact g_zret (pc := 150) X hA (rfl) (⟨Rd, Rw, Rf, Rt, Rl, Ru, y17, ro, 0, rfl, rfl, (hf78_b_to2), (b_ro), (by (first | (clear b_ts b_ro b_rs b_wr; omega) | omega)), (h_Rd), (h_Rw), (h_Rf), (h_Rt), (h_Rl), (h_Ru), (by (first | (clear b_ts b_ro b_rs b_wr; omega) | omega)), (by (first | (clear b_ts b_ro b_rs b_wr; omega) | omega))⟩) (by decide) (by decide) dX4_readWindow_150
        · refine g_iconst (pc := 59) X (iI (-1)) (by rfl) dX4_readWindow_59 ?_
          refine g_goto (pc := 60) X 81 (by decide) dX4_readWindow_60 ?_
          refine g_istore_n (pc := 81) X (i := 3) rfl (by decide) (lv' := [(3, .int (iI (-1))), (2, .int (iI y9)), (1, .int (iI y2)), (0, .ref e0)]) rfl dX4_readWindow_81 ?_
          refine g_iload_n (pc := 82) X 0 rfl dX4_readWindow_82 ?_
          refine g_iconst (pc := 83) X (iI (-1)) (by rfl) dX4_readWindow_83 ?_
          refine g_icmp_neI (pc := 84) X 91 (by decide) ⟨by decide, by decide⟩ ⟨by decide, by decide⟩ dX4_readWindow_84 (fun h => absurd h (by decide)) (fun _ => ?_)
          refine g_iconst (pc := 87) X (iI (-1)) (by rfl) dX4_readWindow_87 ?_
          refine g_goto (pc := 88) X 99 (by decide) dX4_readWindow_88 ?_
          refine g_istore (pc := 99) X (by decide) (lv' := [(4, .int (iI (-1))), (3, .int (iI (-1))), (2, .int (iI y9)), (1, .int (iI y2)), (0, .ref e0)]) rfl dX4_readWindow_99 ?_
          refine g_iload (pc := 101) X 0 rfl dX4_readWindow_101 ?_
          refine g_iconst (pc := 103) X (iI (-1)) (by rfl) dX4_readWindow_103 ?_
          refine g_icmp_neI (pc := 104) X 111 (by decide) ⟨by decide, by decide⟩ ⟨by decide, by decide⟩ dX4_readWindow_104 (fun h => absurd h (by decide)) (fun _ => ?_)
          refine g_iconst (pc := 107) X (iI (-1)) (by rfl) dX4_readWindow_107 ?_
          refine g_goto (pc := 108) X 132 (by decide) dX4_readWindow_108 ?_
          refine g_istore (pc := 132) X (by decide) (lv' := [(5, .int (iI (-1))), (4, .int (iI (-1))), (3, .int (iI (-1))), (2, .int (iI y9)), (1, .int (iI y2)), (0, .ref e0)]) rfl dX4_readWindow_132 ?_
          refine g_iload (pc := 134) X 0 rfl dX4_readWindow_134 ?_
          refine g_iconst (pc := 136) X (iI (-1)) (by rfl) dX4_readWindow_136 ?_
          refine g_icmp_eqI (pc := 137) X 149 (by decide) ⟨by decide, by decide⟩ ⟨by decide, by decide⟩ dX4_readWindow_137 (fun _ => ?_) (fun h => absurd h (by decide))
          refine g_iconst (pc := 149) X (iI 0) (by rfl) dX4_readWindow_149 ?_
          refine g_ws (ws' := [cO_rri e0 4 t0 r0 y10, cO_riirrr t0 9 t_bytes ts tk t_kinds t_places t_values, cA Z t_kinds 0 401 Tk, cA Z t_values 0 401 Tv, cO_rirrrrrrirrr r0 6 w0 ro r_doors r_openingWalls r_froms r_tos r_lowers r_uppers rs r_standWalls r_standXs r_standYs, cO_rrrrrrii w0 10 w_begins w_lengths w_lefts w_rights w_leans w_leaning wn wr, cA Z w_lengths 0 8 Wl, cA Z w_lefts 0 8 Wh, cA Z w_rights 0 8 Wk, cA Z r_doors 2 8 Rd, cA Z r_openingWalls 0 8 Rw, cA Z r_froms 0 8 Rf, cA Z r_tos 0 8 Rt, cA Z r_lowers 0 8 Rl, cA Z r_uppers 0 8 Ru]) [11, 12, 13, 14, 0, 9, 10, 1, 2, 3, 4, 5, 6, 7, 8] (by decide) rfl ?_
          exact g_zret (pc := 150) X hA (rfl) (⟨Rd, Rw, Rf, Rt, Rl, Ru, y10, ro, 0, rfl, rfl, (hf50_b_to2), (b_ro), (by (first | (clear b_ts b_ro b_rs b_wr; omega) | omega)), (h_Rd), (h_Rw), (h_Rf), (h_Rt), (h_Rl), (h_Ru), (by (first | (clear b_ts b_ro b_rs b_wr; omega) | omega)), (by (first | (clear b_ts b_ro b_rs b_wr; omega) | omega))⟩) (by decide) (by decide) dX4_readWindow_150
    · refine g_iconst (pc := 33) X (iI (-1)) (by rfl) dX4_readWindow_33 ?_
      refine g_goto (pc := 34) X 53 (by decide) dX4_readWindow_34 ?_
      refine g_istore_n (pc := 53) X (i := 2) rfl (by decide) (lv' := [(2, .int (iI (-1))), (1, .int (iI y2)), (0, .ref e0)]) rfl dX4_readWindow_53 ?_
      refine g_iload_n (pc := 54) X 0 rfl dX4_readWindow_54 ?_
      refine g_iconst (pc := 55) X (iI (-1)) (by rfl) dX4_readWindow_55 ?_
      refine g_icmp_neI (pc := 56) X 63 (by decide) ⟨by decide, by decide⟩ ⟨by decide, by decide⟩ dX4_readWindow_56 (fun h => absurd h (by decide)) (fun _ => ?_)
      refine g_iconst (pc := 59) X (iI (-1)) (by rfl) dX4_readWindow_59 ?_
      refine g_goto (pc := 60) X 81 (by decide) dX4_readWindow_60 ?_
      refine g_istore_n (pc := 81) X (i := 3) rfl (by decide) (lv' := [(3, .int (iI (-1))), (2, .int (iI (-1))), (1, .int (iI y2)), (0, .ref e0)]) rfl dX4_readWindow_81 ?_
      refine g_iload_n (pc := 82) X 0 rfl dX4_readWindow_82 ?_
      refine g_iconst (pc := 83) X (iI (-1)) (by rfl) dX4_readWindow_83 ?_
      refine g_icmp_neI (pc := 84) X 91 (by decide) ⟨by decide, by decide⟩ ⟨by decide, by decide⟩ dX4_readWindow_84 (fun h => absurd h (by decide)) (fun _ => ?_)
      refine g_iconst (pc := 87) X (iI (-1)) (by rfl) dX4_readWindow_87 ?_
      refine g_goto (pc := 88) X 99 (by decide) dX4_readWindow_88 ?_
      refine g_istore (pc := 99) X (by decide) (lv' := [(4, .int (iI (-1))), (3, .int (iI (-1))), (2, .int (iI (-1))), (1, .int (iI y2)), (0, .ref e0)]) rfl dX4_readWindow_99 ?_
      refine g_iload (pc := 101) X 0 rfl dX4_readWindow_101 ?_
      refine g_iconst (pc := 103) X (iI (-1)) (by rfl) dX4_readWindow_103 ?_
      refine g_icmp_neI (pc := 104) X 111 (by decide) ⟨by decide, by decide⟩ ⟨by decide, by decide⟩ dX4_readWindow_104 (fun h => absurd h (by decide)) (fun _ => ?_)
      refine g_iconst (pc := 107) X (iI (-1)) (by rfl) dX4_readWindow_107 ?_
      refine g_goto (pc := 108) X 132 (by decide) dX4_readWindow_108 ?_
      refine g_istore (pc := 132) X (by decide) (lv' := [(5, .int (iI (-1))), (4, .int (iI (-1))), (3, .int (iI (-1))), (2, .int (iI (-1))), (1, .int (iI y2)), (0, .ref e0)]) rfl dX4_readWindow_132 ?_
      refine g_iload (pc := 134) X 0 rfl dX4_readWindow_134 ?_
      refine g_iconst (pc := 136) X (iI (-1)) (by rfl) dX4_readWindow_136 ?_
      refine g_icmp_eqI (pc := 137) X 149 (by decide) ⟨by decide, by decide⟩ ⟨by decide, by decide⟩ dX4_readWindow_137 (fun _ => ?_) (fun h => absurd h (by decide))
      refine g_iconst (pc := 149) X (iI 0) (by rfl) dX4_readWindow_149 ?_
      refine g_ws (ws' := [cO_rri e0 4 t0 r0 y3, cO_riirrr t0 9 t_bytes ts tk t_kinds t_places t_values, cA Z t_kinds 0 401 Tk, cA Z t_values 0 401 Tv, cO_rirrrrrrirrr r0 6 w0 ro r_doors r_openingWalls r_froms r_tos r_lowers r_uppers rs r_standWalls r_standXs r_standYs, cO_rrrrrrii w0 10 w_begins w_lengths w_lefts w_rights w_leans w_leaning wn wr, cA Z w_lengths 0 8 Wl, cA Z w_lefts 0 8 Wh, cA Z w_rights 0 8 Wk, cA Z r_doors 2 8 Rd, cA Z r_openingWalls 0 8 Rw, cA Z r_froms 0 8 Rf, cA Z r_tos 0 8 Rt, cA Z r_lowers 0 8 Rl, cA Z r_uppers 0 8 Ru]) [11, 12, 13, 14, 0, 1, 2, 3, 4, 5, 6, 7, 8, 9, 10] (by decide) rfl ?_
      exact g_zret (pc := 150) X hA (rfl) (⟨Rd, Rw, Rf, Rt, Rl, Ru, y3, ro, 0, rfl, rfl, (hf24_b_to2), (b_ro), (by (first | (clear b_ts b_ro b_rs b_wr; omega) | omega)), (h_Rd), (h_Rw), (h_Rf), (h_Rt), (h_Rl), (h_Ru), (by (first | (clear b_ts b_ro b_rs b_wr; omega) | omega)), (by (first | (clear b_ts b_ro b_rs b_wr; omega) | omega))⟩) (by decide) (by decide) dX4_readWindow_150

set_option maxHeartbeats 4000000 in
set_option maxRecDepth 100000 in
theorem k_X4_readLean (l : Launch) (Z : gZ) (e0 : Nat) (t0 : Nat) (r0 : Nat) (t_bytes : Nat) (t_kinds : Nat) (t_places : Nat) (t_values : Nat) (w0 : Nat) (r_doors : Nat) (r_openingWalls : Nat) (r_froms : Nat) (r_tos : Nat) (r_lowers : Nat) (r_uppers : Nat) (r_standWalls : Nat) (r_standXs : Nat) (r_standYs : Nat) (w_begins : Nat) (w_lengths : Nat) (w_lefts : Nat) (w_rights : Nat) (w_leans : Nat) (w_leaning : Nat) (Tk : Nat → Int) (Tv : Nat → Int) (Wm : Nat → Int) (Wz : Nat → Int) (to0 : Int) (ts : Int) (tk : Int) (ro : Int) (rs : Int) (wn : Int) (wr : Int) (b_to0 : 0 ≤ to0 ∧ to0 ≤ 401) (b_ts : 0 ≤ ts ∧ ts ≤ 400) (b_tk : 0 ≤ tk ∧ tk ≤ 401) (b_ro : 0 ≤ ro ∧ ro ≤ 8) (b_rs : 0 ≤ rs ∧ rs ≤ 4) (b_wn : 0 ≤ wn ∧ wn ≤ 8) (b_wr : 0 ≤ wr ∧ wr ≤ 4800) (hn : to0 < tk) (h_Tk : ∀ j, j < 401 → 0 ≤ Tk j ∧ Tk j ≤ 10) (h_Tv : ∀ j, j < 401 → 0 ≤ Tv j ∧ Tv j ≤ 100000) (h_Wm : ∀ j, j < 8 → (-50) ≤ Wm j ∧ Wm j ≤ 50) (h_Wz : ∀ j, j < 8 → 0 ≤ Wz j ∧ Wz j ≤ 1) : Con l Z yX4_readLean cX4_readLean 4 (some .boolean) 2 44 0 0 [.ref e0] [cO_rri e0 4 t0 r0 to0, cO_riirrr t0 9 t_bytes ts tk t_kinds t_places t_values, cA Z t_kinds 0 401 Tk, cA Z t_values 0 401 Tv, cO_rirrrrrrirrr r0 6 w0 ro r_doors r_openingWalls r_froms r_tos r_lowers r_uppers rs r_standWalls r_standXs r_standYs, cO_rrrrrrii w0 10 w_begins w_lengths w_lefts w_rights w_leans w_leaning wn wr, cA Z w_leans 0 8 Wm, cA Z w_leaning 2 8 Wz] (fun r w' => ∃ (Wm2 : Nat → Int) (Wz2 : Nat → Int) (to2 : Int) (y : Int), (r = some (.int (iI y))) ∧ (w' = [cO_rri e0 4 t0 r0 to2, cO_riirrr t0 9 t_bytes ts tk t_kinds t_places t_values, cA Z t_kinds 0 401 Tk, cA Z t_values 0 401 Tv, cO_rirrrrrrirrr r0 6 w0 ro r_doors r_openingWalls r_froms r_tos r_lowers r_uppers rs r_standWalls r_standXs r_standYs, cO_rrrrrrii w0 10 w_begins w_lengths w_lefts w_rights w_leans w_leaning wn wr, cA Z w_leans 0 8 Wm2, cA Z w_leaning 2 8 Wz2]) ∧ (0 ≤ to2 ∧ to2 ≤ 401) ∧ (0 ≤ y ∧ y ≤ 1) ∧ (∀ j, j < 8 → (-50) ≤ Wm2 j ∧ Wm2 j ≤ 50) ∧ (∀ j, j < 8 → 0 ≤ Wz2 j ∧ Wz2 j ≤ 1) ∧ (to2 ≤ tk) ∧ (to0 < to2)) := by
  refine enter (by decide) (Nat.le_of_ble_eq_true rfl) ?_
  intro p e s m args below meth c A X hnm hA
  have X : Cx p s m args meth c cX4_readLean 4 (some .boolean) RX4 Z A := X
  refine g_as (pc' := 0) (lv' := [(0, .ref e0)]) (st' := []) (ws' := [cO_rri e0 4 t0 r0 to0, cO_riirrr t0 9 t_bytes ts tk t_kinds t_places t_values, cA Z t_kinds 0 401 Tk, cA Z t_values 0 401 Tv, cO_rirrrrrrirrr r0 6 w0 ro r_doors r_openingWalls r_froms r_tos r_lowers r_uppers rs r_standWalls r_standXs r_standYs, cO_rrrrrrii w0 10 w_begins w_lengths w_lefts w_rights w_leans w_leaning wn wr, cA Z w_leans 0 8 Wm, cA Z w_leaning 2 8 Wz]) rfl rfl rfl rfl ?_
  refine g_aload_n (pc := 0) X 0 rfl dX4_readLean_0 ?_
  refine g_dup (pc := 1) X rfl dX4_readLean_1 ?_
  refine g_get (pc := 2) X inlX4 0 rfl rfl 2 (by decide) mw_12_0 rfl dX4_readLean_2 ?_
  refine g_iconst (pc := 5) X (iI 1) (by rfl) dX4_readLean_5 ?_
  refine g_iaddI (pc := 6) X dX4_readLean_6 ?_
  refine g_put (pc := 7) X inlX4 tyX4_ok nmX4 0 rfl rfl 2 (by decide) mw_12_0 rfl rfl rfl (Nat.le_of_ble_eq_true rfl) (ws' := [cO_rri e0 4 t0 r0 (to0 + 1), cO_riirrr t0 9 t_bytes ts tk t_kinds t_places t_values, cA Z t_kinds 0 401 Tk, cA Z t_values 0 401 Tv, cO_rirrrrrrirrr r0 6 w0 ro r_doors r_openingWalls r_froms r_tos r_lowers r_uppers rs r_standWalls r_standXs r_standYs, cO_rrrrrrii w0 10 w_begins w_lengths w_lefts w_rights w_leans w_leaning wn wr, cA Z w_leans 0 8 Wm, cA Z w_leaning 2 8 Wz]) rfl dX4_readLean_7 ?_
  refine g_aload_n (pc := 10) X 0 rfl dX4_readLean_10 ?_
  refine g_bipush (pc := 11) X (iI 6) (by decide) dX4_readLean_11 ?_
  refine g_callV (pc := 13) X (k_X4_isNext l Z e0 t0 r0 t_bytes t_kinds t_places t_values Tk 6 (to0 + 1) ts tk (by decide) (by (first | (clear b_ts b_ro b_rs b_wr; omega) | omega)) b_ts b_tk (h_Tk)) iM_X4_isNext mw_16_6 mw_16_7 mw_16_8 0 rfl rfl [0, 1, 2] [3, 4, 5, 6, 7] rfl (wr := [cA Z t_values 0 401 Tv, cO_rirrrrrrirrr r0 6 w0 ro r_doors r_openingWalls r_froms r_tos r_lowers r_uppers rs r_standWalls r_standXs r_standYs, cO_rrrrrrii w0 10 w_begins w_lengths w_lefts w_rights w_leans w_leaning wn wr, cA Z w_leans 0 8 Wm, cA Z w_leaning 2 8 Wz]) rfl (by decide) rfl rfl (Nat.le_of_ble_eq_true rfl) (by decide) dX4_readLean_13 (fun r w' hpo => ?_)
  obtain ⟨rfl, rfl⟩ := hpo
  refine g_as (pc' := 16) (lv' := [(0, .ref e0)]) (st' := [.int (iI (bI ((to0 + 1) < tk ∧ Tk (to0 + 1).toNat = 6)))]) (ws' := [cA Z t_values 0 401 Tv, cO_rirrrrrrirrr r0 6 w0 ro r_doors r_openingWalls r_froms r_tos r_lowers r_uppers rs r_standWalls r_standXs r_standYs, cO_rrrrrrii w0 10 w_begins w_lengths w_lefts w_rights w_leans w_leaning wn wr, cA Z w_leans 0 8 Wm, cA Z w_leaning 2 8 Wz, cO_rri e0 4 t0 r0 (to0 + 1), cO_riirrr t0 9 t_bytes ts tk t_kinds t_places t_values, cA Z t_kinds 0 401 Tk]) rfl rfl rfl rfl ?_
  refine g_if_eqB (pc := 16) X 46 (by decide) dX4_readLean_16 (fun c16 => ?_) (fun c16 => ?_)
  · refine g_aload_n (pc := 46) X 0 rfl dX4_readLean_46 ?_
    refine g_iconst (pc := 47) X (iI 0) (by rfl) dX4_readLean_47 ?_
    refine g_aload_n (pc := 48) X 0 rfl dX4_readLean_48 ?_
    refine g_get (pc := 49) X inlX4 5 rfl rfl 1 (by decide) mw_12_1 rfl dX4_readLean_49 ?_
    refine g_get (pc := 52) X inlX6 1 rfl rfl 0 (by decide) mw_12_2 rfl dX4_readLean_52 ?_
    refine g_get (pc := 55) X inlX10 2 rfl rfl 6 (by decide) mw_12_3 rfl dX4_readLean_55 ?_
    refine g_iconst (pc := 58) X (iI 1) (by rfl) dX4_readLean_58 ?_
    refine g_isubI (pc := 59) X dX4_readLean_59 ?_
    refine g_callV (pc := 60) X (k_X4_readNumber l Z e0 t0 r0 t_bytes t_kinds t_places t_values Tk Tv 0 (wn - 1) (to0 + 1) ts tk (by decide) (by (first | (clear b_ts b_ro b_rs b_wr; omega) | omega)) (by (first | (clear b_ts b_ro b_rs b_wr; omega) | omega)) b_ts b_tk (h_Tk) (h_Tv)) iM_X4_readNumber mw_16_22 mw_16_23 mw_17_0 5 rfl rfl [5, 6, 7, 0] [1, 2, 3, 4] rfl (wr := [cO_rirrrrrrirrr r0 6 w0 ro r_doors r_openingWalls r_froms r_tos r_lowers r_uppers rs r_standWalls r_standXs r_standYs, cO_rrrrrrii w0 10 w_begins w_lengths w_lefts w_rights w_leans w_leaning wn wr, cA Z w_leans 0 8 Wm, cA Z w_leaning 2 8 Wz]) rfl (by decide) rfl rfl (Nat.le_of_ble_eq_true rfl) (by decide) dX4_readLean_60 (fun r w' hpo => ?_)
    rcases hpo with hp0 | hp1
    · obtain ⟨rfl, rfl⟩ := hp0
      refine g_as (pc' := 63) (lv' := [(0, .ref e0)]) (st' := [.int (iI (-1))]) (ws' := [cO_rirrrrrrirrr r0 6 w0 ro r_doors r_openingWalls r_froms r_tos r_lowers r_uppers rs r_standWalls r_standXs r_standYs, cO_rrrrrrii w0 10 w_begins w_lengths w_lefts w_rights w_leans w_leaning wn wr, cA Z w_leans 0 8 Wm, cA Z w_leaning 2 8 Wz, cO_rri e0 4 t0 r0 (to0 + 1), cO_riirrr t0 9 t_bytes ts tk t_kinds t_places t_values, cA Z t_kinds 0 401 Tk, cA Z t_values 0 401 Tv]) rfl rfl rfl rfl ?_
      refine g_istore_n (pc := 63) X (i := 1) rfl (by decide) (lv' := [(1, .int (iI (-1))), (0, .ref e0)]) rfl dX4_readLean_63 ?_
      refine g_iload_n (pc := 64) X 0 rfl dX4_readLean_64 ?_
      refine g_iconst (pc := 65) X (iI (-1)) (by rfl) dX4_readLean_65 ?_
      refine g_icmp_neI (pc := 66) X 71 (by decide) ⟨by decide, by decide⟩ ⟨by decide, by decide⟩ dX4_readLean_66 (fun h => absurd h (by decide)) (fun _ => ?_)
      refine g_iconst (pc := 69) X (iI 0) (by rfl) dX4_readLean_69 ?_
      refine g_ws (ws' := [cO_rri e0 4 t0 r0 (to0 + 1), cO_riirrr t0 9 t_bytes ts tk t_kinds t_places t_values, cA Z t_kinds 0 401 Tk, cA Z t_values 0 401 Tv, cO_rirrrrrrirrr r0 6 w0 ro r_doors r_openingWalls r_froms r_tos r_lowers r_uppers rs r_standWalls r_standXs r_standYs, cO_rrrrrrii w0 10 w_begins w_lengths w_lefts w_rights w_leans w_leaning wn wr, cA Z w_leans 0 8 Wm, cA Z w_leaning 2 8 Wz]) [4, 5, 6, 7, 0, 1, 2, 3] (by decide) rfl ?_
      exact g_zret (pc := 70) X hA (rfl) (⟨Wm, Wz, (to0 + 1), 0, rfl, rfl, (by (first | (clear b_ts b_ro b_rs b_wr; omega) | omega)), (by (first | (clear b_ts b_ro b_rs b_wr; omega) | omega)), (h_Wm), (h_Wz), (by (first | (clear b_ts b_ro b_rs b_wr; omega) | omega)), (by (first | (clear b_ts b_ro b_rs b_wr; omega) | omega))⟩) (by decide) (by decide) dX4_readLean_70
    · refine exN_2 hp1 fun y3 y4 hz => anD_7 hz fun e_r e_w hf60_b_y hf60_b_to2 hf60_f1 hf60_f2 hf60_f3 => ?_; clear hz hp1; subst e_r; subst e_w
      refine g_as (pc' := 63) (lv' := [(0, .ref e0)]) (st' := [.int (iI y3)]) (ws' := [cO_rirrrrrrirrr r0 6 w0 ro r_doors r_openingWalls r_froms r_tos r_lowers r_uppers rs r_standWalls r_standXs r_standYs, cO_rrrrrrii w0 10 w_begins w_lengths w_lefts w_rights w_leans w_leaning wn wr, cA Z w_leans 0 8 Wm, cA Z w_leaning 2 8 Wz, cO_rri e0 4 t0 r0 y4, cO_riirrr t0 9 t_bytes ts tk t_kinds t_places t_values, cA Z t_kinds 0 401 Tk, cA Z t_values 0 401 Tv]) rfl rfl rfl rfl ?_
      have tt6 : 0 ≤ y3 ∧ y3 ≤ 7 := by (first | (clear b_ts b_ro b_rs b_wr; omega) | omega)
      refine g_istore_n (pc := 63) X (i := 1) rfl (by decide) (lv' := [(1, .int (iI y3)), (0, .ref e0)]) rfl dX4_readLean_63 ?_
      refine g_iload_n (pc := 64) X 0 rfl dX4_readLean_64 ?_
      refine g_iconst (pc := 65) X (iI (-1)) (by rfl) dX4_readLean_65 ?_
      refine g_icmp_neI (pc := 66) X 71 (by decide) (inRb hf60_b_y (by decide) (by decide)) ⟨by decide, by decide⟩ dX4_readLean_66 (fun c66 => ?_) (fun c66 => ?_)
      · refine g_aload_n (pc := 71) X 1 rfl dX4_readLean_71 ?_
        refine g_bipush (pc := 72) X (iI 7) (by decide) dX4_readLean_72 ?_
        refine g_callV (pc := 74) X (k_X4_readSign l Z e0 t0 r0 t_bytes t_kinds t_places t_values Tk 7 y4 ts tk (by decide) hf60_b_to2 b_ts b_tk (h_Tk)) iM_X4_readSign mw_17_3 mw_17_4 mw_17_5 4 rfl rfl [4, 5, 6] [0, 1, 2, 3, 7] rfl (wr := [cO_rirrrrrrirrr r0 6 w0 ro r_doors r_openingWalls r_froms r_tos r_lowers r_uppers rs r_standWalls r_standXs r_standYs, cO_rrrrrrii w0 10 w_begins w_lengths w_lefts w_rights w_leans w_leaning wn wr, cA Z w_leans 0 8 Wm, cA Z w_leaning 2 8 Wz, cA Z t_values 0 401 Tv]) rfl (by decide) rfl rfl (Nat.le_of_ble_eq_true rfl) (by decide) dX4_readLean_74 (fun r w' hpo => ?_)
        rcases hpo with hp0 | hp1
        · obtain ⟨rfl, rfl⟩ := hp0
          refine g_as (pc' := 77) (lv' := [(1, .int (iI y3)), (0, .ref e0)]) (st' := [.int (iI 0)]) (ws' := [cO_rirrrrrrirrr r0 6 w0 ro r_doors r_openingWalls r_froms r_tos r_lowers r_uppers rs r_standWalls r_standXs r_standYs, cO_rrrrrrii w0 10 w_begins w_lengths w_lefts w_rights w_leans w_leaning wn wr, cA Z w_leans 0 8 Wm, cA Z w_leaning 2 8 Wz, cA Z t_values 0 401 Tv, cO_rri e0 4 t0 r0 y4, cO_riirrr t0 9 t_bytes ts tk t_kinds t_places t_values, cA Z t_kinds 0 401 Tk]) rfl rfl rfl rfl ?_
          refine g_if_eqI (pc := 77) X 84 (by decide) ⟨by decide, by decide⟩ dX4_readLean_77 (fun _ => ?_) (fun h => absurd h (by decide))
          refine g_iconst (pc := 84) X (iI 1) (by rfl) dX4_readLean_84 ?_
          refine g_istore_n (pc := 85) X (i := 2) rfl (by decide) (lv' := [(2, .int (iI 1)), (1, .int (iI y3)), (0, .ref e0)]) rfl dX4_readLean_85 ?_
          refine g_aload_n (pc := 86) X 2 rfl dX4_readLean_86 ?_
          refine g_iconst (pc := 87) X (iI 0) (by rfl) dX4_readLean_87 ?_
          refine g_bipush (pc := 88) X (iI 50) (by decide) dX4_readLean_88 ?_
          refine g_callV (pc := 90) X (k_X4_readNumber l Z e0 t0 r0 t_bytes t_kinds t_places t_values Tk Tv 0 50 y4 ts tk (by decide) (by decide) hf60_b_to2 b_ts b_tk (h_Tk) (h_Tv)) iM_X4_readNumber mw_16_22 mw_16_23 mw_17_0 5 rfl rfl [5, 6, 7, 4] [0, 1, 2, 3] rfl (wr := [cO_rirrrrrrirrr r0 6 w0 ro r_doors r_openingWalls r_froms r_tos r_lowers r_uppers rs r_standWalls r_standXs r_standYs, cO_rrrrrrii w0 10 w_begins w_lengths w_lefts w_rights w_leans w_leaning wn wr, cA Z w_leans 0 8 Wm, cA Z w_leaning 2 8 Wz]) rfl (by decide) rfl rfl (Nat.le_of_ble_eq_true rfl) (by decide) dX4_readLean_90 (fun r w' hpo => ?_)
          rcases hpo with hp0 | hp1
          · obtain ⟨rfl, rfl⟩ := hp0
            refine g_as (pc' := 93) (lv' := [(2, .int (iI 1)), (1, .int (iI y3)), (0, .ref e0)]) (st' := [.int (iI (-1))]) (ws' := [cO_rirrrrrrirrr r0 6 w0 ro r_doors r_openingWalls r_froms r_tos r_lowers r_uppers rs r_standWalls r_standXs r_standYs, cO_rrrrrrii w0 10 w_begins w_lengths w_lefts w_rights w_leans w_leaning wn wr, cA Z w_leans 0 8 Wm, cA Z w_leaning 2 8 Wz, cO_rri e0 4 t0 r0 y4, cO_riirrr t0 9 t_bytes ts tk t_kinds t_places t_values, cA Z t_kinds 0 401 Tk, cA Z t_values 0 401 Tv]) rfl rfl rfl rfl ?_
            refine g_istore_n (pc := 93) X (i := 3) rfl (by decide) (lv' := [(3, .int (iI (-1))), (2, .int (iI 1)), (1, .int (iI y3)), (0, .ref e0)]) rfl dX4_readLean_93 ?_
            refine g_iload_n (pc := 94) X 0 rfl dX4_readLean_94 ?_
            refine g_iconst (pc := 95) X (iI (-1)) (by rfl) dX4_readLean_95 ?_
            refine g_icmp_eqI (pc := 96) X 108 (by decide) ⟨by decide, by decide⟩ ⟨by decide, by decide⟩ dX4_readLean_96 (fun _ => ?_) (fun h => absurd h (by decide))
            refine g_iconst (pc := 108) X (iI 0) (by rfl) dX4_readLean_108 ?_
            refine g_ws (ws' := [cO_rri e0 4 t0 r0 y4, cO_riirrr t0 9 t_bytes ts tk t_kinds t_places t_values, cA Z t_kinds 0 401 Tk, cA Z t_values 0 401 Tv, cO_rirrrrrrirrr r0 6 w0 ro r_doors r_openingWalls r_froms r_tos r_lowers r_uppers rs r_standWalls r_standXs r_standYs, cO_rrrrrrii w0 10 w_begins w_lengths w_lefts w_rights w_leans w_leaning wn wr, cA Z w_leans 0 8 Wm, cA Z w_leaning 2 8 Wz]) [4, 5, 6, 7, 0, 1, 2, 3] (by decide) rfl ?_
            exact g_zret (pc := 109) X hA (rfl) (⟨Wm, Wz, y4, 0, rfl, rfl, (hf60_b_to2), (by (first | (clear b_ts b_ro b_rs b_wr; omega) | omega)), (h_Wm), (h_Wz), (by (first | (clear b_ts b_ro b_rs b_wr; omega) | omega)), (by (first | (clear b_ts b_ro b_rs b_wr; omega) | omega))⟩) (by decide) (by decide) dX4_readLean_109
          · refine exN_2 hp1 fun y9 y10 hz => anD_7 hz fun e_r e_w hf90_b_y hf90_b_to2 hf90_f1 hf90_f2 hf90_f3 => ?_; clear hz hp1; subst e_r; subst e_w
            refine g_as (pc' := 93) (lv' := [(2, .int (iI 1)), (1, .int (iI y3)), (0, .ref e0)]) (st' := [.int (iI y9)]) (ws' := [cO_rirrrrrrirrr r0 6 w0 ro r_doors r_openingWalls r_froms r_tos r_lowers r_uppers rs r_standWalls r_standXs r_standYs, cO_rrrrrrii w0 10 w_begins w_lengths w_lefts w_rights w_leans w_leaning wn wr, cA Z w_leans 0 8 Wm, cA Z w_leaning 2 8 Wz, cO_rri e0 4 t0 r0 y10, cO_riirrr t0 9 t_bytes ts tk t_kinds t_places t_values, cA Z t_kinds 0 401 Tk, cA Z t_values 0 401 Tv]) rfl rfl rfl rfl ?_
            have tt12 : 0 ≤ y9 ∧ y9 ≤ 50 := by (first | (clear b_ts b_ro b_rs b_wr; omega) | omega)
            refine g_istore_n (pc := 93) X (i := 3) rfl (by decide) (lv' := [(3, .int (iI y9)), (2, .int (iI 1)), (1, .int (iI y3)), (0, .ref e0)]) rfl dX4_readLean_93 ?_
            refine g_iload_n (pc := 94) X 0 rfl dX4_readLean_94 ?_
            refine g_iconst (pc := 95) X (iI (-1)) (by rfl) dX4_readLean_95 ?_
            refine g_icmp_eqI (pc := 96) X 108 (by decide) (inRb hf90_b_y (by decide) (by decide)) ⟨by decide, by decide⟩ dX4_readLean_96 (fun c96 => ?_) (fun c96 => ?_)
            · refine g_iconst (pc := 108) X (iI 0) (by rfl) dX4_readLean_108 ?_
              refine g_ws (ws' := [cO_rri e0 4 t0 r0 y10, cO_riirrr t0 9 t_bytes ts tk t_kinds t_places t_values, cA Z t_kinds 0 401 Tk, cA Z t_values 0 401 Tv, cO_rirrrrrrirrr r0 6 w0 ro r_doors r_openingWalls r_froms r_tos r_lowers r_uppers rs r_standWalls r_standXs r_standYs, cO_rrrrrrii w0 10 w_begins w_lengths w_lefts w_rights w_leans w_leaning wn wr, cA Z w_leans 0 8 Wm, cA Z w_leaning 2 8 Wz]) [4, 5, 6, 7, 0, 1, 2, 3] (by decide) rfl ?_
              exact g_zret (pc := 109) X hA (rfl) (⟨Wm, Wz, y10, 0, rfl, rfl, (hf90_b_to2), (by (first | (clear b_ts b_ro b_rs b_wr; omega) | omega)), (h_Wm), (h_Wz), (by (first | (clear b_ts b_ro b_rs b_wr; omega) | omega)), (by (first | (clear b_ts b_ro b_rs b_wr; omega) | omega))⟩) (by decide) (by decide) dX4_readLean_109
            · refine g_aload_n (pc := 99) X 3 rfl dX4_readLean_99 ?_
              refine g_bipush (pc := 100) X (iI 8) (by decide) dX4_readLean_100 ?_
              refine g_callV (pc := 102) X (k_X4_readSign l Z e0 t0 r0 t_bytes t_kinds t_places t_values Tk 8 y10 ts tk (by decide) hf90_b_to2 b_ts b_tk (h_Tk)) iM_X4_readSign mw_17_3 mw_17_4 mw_17_5 4 rfl rfl [4, 5, 6] [0, 1, 2, 3, 7] rfl (wr := [cO_rirrrrrrirrr r0 6 w0 ro r_doors r_openingWalls r_froms r_tos r_lowers r_uppers rs r_standWalls r_standXs r_standYs, cO_rrrrrrii w0 10 w_begins w_lengths w_lefts w_rights w_leans w_leaning wn wr, cA Z w_leans 0 8 Wm, cA Z w_leaning 2 8 Wz, cA Z t_values 0 401 Tv]) rfl (by decide) rfl rfl (Nat.le_of_ble_eq_true rfl) (by decide) dX4_readLean_102 (fun r w' hpo => ?_)
              rcases hpo with hp0 | hp1
              · obtain ⟨rfl, rfl⟩ := hp0
                refine g_as (pc' := 105) (lv' := [(3, .int (iI y9)), (2, .int (iI 1)), (1, .int (iI y3)), (0, .ref e0)]) (st' := [.int (iI 0)]) (ws' := [cO_rirrrrrrirrr r0 6 w0 ro r_doors r_openingWalls r_froms r_tos r_lowers r_uppers rs r_standWalls r_standXs r_standYs, cO_rrrrrrii w0 10 w_begins w_lengths w_lefts w_rights w_leans w_leaning wn wr, cA Z w_leans 0 8 Wm, cA Z w_leaning 2 8 Wz, cA Z t_values 0 401 Tv, cO_rri e0 4 t0 r0 y10, cO_riirrr t0 9 t_bytes ts tk t_kinds t_places t_values, cA Z t_kinds 0 401 Tk]) rfl rfl rfl rfl ?_
                refine g_if_neI (pc := 105) X 110 (by decide) ⟨by decide, by decide⟩ dX4_readLean_105 (fun h => absurd h (by decide)) (fun _ => ?_)
                refine g_iconst (pc := 108) X (iI 0) (by rfl) dX4_readLean_108 ?_
                refine g_ws (ws' := [cO_rri e0 4 t0 r0 y10, cO_riirrr t0 9 t_bytes ts tk t_kinds t_places t_values, cA Z t_kinds 0 401 Tk, cA Z t_values 0 401 Tv, cO_rirrrrrrirrr r0 6 w0 ro r_doors r_openingWalls r_froms r_tos r_lowers r_uppers rs r_standWalls r_standXs r_standYs, cO_rrrrrrii w0 10 w_begins w_lengths w_lefts w_rights w_leans w_leaning wn wr, cA Z w_leans 0 8 Wm, cA Z w_leaning 2 8 Wz]) [5, 6, 7, 4, 0, 1, 2, 3] (by decide) rfl ?_
                exact g_zret (pc := 109) X hA (rfl) (⟨Wm, Wz, y10, 0, rfl, rfl, (hf90_b_to2), (by (first | (clear b_ts b_ro b_rs b_wr; omega) | omega)), (h_Wm), (h_Wz), (by (first | (clear b_ts b_ro b_rs b_wr; omega) | omega)), (by (first | (clear b_ts b_ro b_rs b_wr; omega) | omega))⟩) (by decide) (by decide) dX4_readLean_109
              · refine exN_1 hp1 fun y14 hz => anD_5 hz fun e_r e_w hf102_b_to2 hf102_f2 hf102_f3 => ?_; clear hz hp1; subst e_r; subst e_w
                refine g_as (pc' := 105) (lv' := [(3, .int (iI y9)), (2, .int (iI 1)), (1, .int (iI y3)), (0, .ref e0)]) (st' := [.int (iI 1)]) (ws' := [cO_rirrrrrrirrr r0 6 w0 ro r_doors r_openingWalls r_froms r_tos r_lowers r_uppers rs r_standWalls r_standXs r_standYs, cO_rrrrrrii w0 10 w_begins w_lengths w_lefts w_rights w_leans w_leaning wn wr, cA Z w_leans 0 8 Wm, cA Z w_leaning 2 8 Wz, cA Z t_values 0 401 Tv, cO_rri e0 4 t0 r0 y14, cO_riirrr t0 9 t_bytes ts tk t_kinds t_places t_values, cA Z t_kinds 0 401 Tk]) rfl rfl rfl rfl ?_
                refine g_if_neI (pc := 105) X 110 (by decide) ⟨by decide, by decide⟩ dX4_readLean_105 (fun _ => ?_) (fun h => absurd h (by decide))
                refine g_aload_n (pc := 110) X 3 rfl dX4_readLean_110 ?_
                refine g_get (pc := 111) X inlX4 5 rfl rfl 1 (by decide) mw_12_1 rfl dX4_readLean_111 ?_
                refine g_get (pc := 114) X inlX6 0 rfl rfl 0 (by decide) mw_12_2 rfl dX4_readLean_114 ?_
                refine g_iload_n (pc := 117) X 2 rfl dX4_readLean_117 ?_
                refine g_iload_n (pc := 118) X 1 rfl dX4_readLean_118 ?_
                refine g_iload_n (pc := 119) X 0 rfl dX4_readLean_119 ?_
                refine g_imulI (pc := 120) X dX4_readLean_120 ?_
                refine g_callV (pc := 121) X (k_X10_lean l Z w0 w_begins w_lengths w_lefts w_rights w_leans w_leaning Wm Wz y3 (1 * y9) wn wr (by (first | (clear b_ts b_ro b_rs b_wr; omega) | omega)) (by (first | (clear b_ts b_ro b_rs b_wr; omega) | omega)) b_wn b_wr (h_Wm) (h_Wz)) iM_X10_lean mw_18_20 mw_18_21 mw_18_22 1 rfl rfl [1, 2, 3] [0, 4, 5, 6, 7] rfl (wr := [cO_rirrrrrrirrr r0 6 w0 ro r_doors r_openingWalls r_froms r_tos r_lowers r_uppers rs r_standWalls r_standXs r_standYs, cA Z t_values 0 401 Tv, cO_rri e0 4 t0 r0 y14, cO_riirrr t0 9 t_bytes ts tk t_kinds t_places t_values, cA Z t_kinds 0 401 Tk]) rfl (by decide) rfl rfl (Nat.le_of_ble_eq_true rfl) (by decide) dX4_readLean_121 (fun r w' hpo => ?_)
                refine exN_2 hpo fun F16 F17 hz => anD_4 hz fun e_r e_w hf121_h_Wm2 hf121_h_Wz2 => ?_; clear hz hpo; subst e_r; subst e_w
                refine g_as (pc' := 124) (lv' := [(3, .int (iI y9)), (2, .int (iI 1)), (1, .int (iI y3)), (0, .ref e0)]) (st' := []) (ws' := [cO_rirrrrrrirrr r0 6 w0 ro r_doors r_openingWalls r_froms r_tos r_lowers r_uppers rs r_standWalls r_standXs r_standYs, cA Z t_values 0 401 Tv, cO_rri e0 4 t0 r0 y14, cO_riirrr t0 9 t_bytes ts tk t_kinds t_places t_values, cA Z t_kinds 0 401 Tk, cO_rrrrrrii w0 10 w_begins w_lengths w_lefts w_rights w_leans w_leaning wn wr, cA Z w_leans 0 8 F16, cA Z w_leaning 2 8 F17]) rfl rfl rfl rfl ?_
                refine g_iconst (pc := 124) X (iI 1) (by rfl) dX4_readLean_124 ?_
                refine g_ws (ws' := [cO_rri e0 4 t0 r0 y14, cO_riirrr t0 9 t_bytes ts tk t_kinds t_places t_values, cA Z t_kinds 0 401 Tk, cA Z t_values 0 401 Tv, cO_rirrrrrrirrr r0 6 w0 ro r_doors r_openingWalls r_froms r_tos r_lowers r_uppers rs r_standWalls r_standXs r_standYs, cO_rrrrrrii w0 10 w_begins w_lengths w_lefts w_rights w_leans w_leaning wn wr, cA Z w_leans 0 8 F16, cA Z w_leaning 2 8 F17]) [2, 3, 4, 1, 0, 5, 6, 7] (by decide) rfl ?_
                exact g_zret (pc := 125) X hA (rfl) (⟨F16, F17, y14, 1, rfl, rfl, (hf102_b_to2), (by (first | (clear b_ts b_ro b_rs b_wr; omega) | omega)), (hf121_h_Wm2), (hf121_h_Wz2), (by (first | (clear b_ts b_ro b_rs b_wr; omega) | omega)), (by (first | (clear b_ts b_ro b_rs b_wr; omega) | omega))⟩) (by decide) (by decide) dX4_readLean_125
        · refine exN_1 hp1 fun y19 hz => anD_5 hz fun e_r e_w hf74_b_to2 hf74_f2 hf74_f3 => ?_; clear hz hp1; subst e_r; subst e_w
          refine g_as (pc' := 77) (lv' := [(1, .int (iI y3)), (0, .ref e0)]) (st' := [.int (iI 1)]) (ws' := [cO_rirrrrrrirrr r0 6 w0 ro r_doors r_openingWalls r_froms r_tos r_lowers r_uppers rs r_standWalls r_standXs r_standYs, cO_rrrrrrii w0 10 w_begins w_lengths w_lefts w_rights w_leans w_leaning wn wr, cA Z w_leans 0 8 Wm, cA Z w_leaning 2 8 Wz, cA Z t_values 0 401 Tv, cO_rri e0 4 t0 r0 y19, cO_riirrr t0 9 t_bytes ts tk t_kinds t_places t_values, cA Z t_kinds 0 401 Tk]) rfl rfl rfl rfl ?_
          refine g_if_eqI (pc := 77) X 84 (by decide) ⟨by decide, by decide⟩ dX4_readLean_77 (fun h => absurd h (by decide)) (fun _ => ?_)
          refine g_iconst (pc := 80) X (iI (-1)) (by rfl) dX4_readLean_80 ?_
          refine g_goto (pc := 81) X 85 (by decide) dX4_readLean_81 ?_
          refine g_istore_n (pc := 85) X (i := 2) rfl (by decide) (lv' := [(2, .int (iI (-1))), (1, .int (iI y3)), (0, .ref e0)]) rfl dX4_readLean_85 ?_
          refine g_aload_n (pc := 86) X 2 rfl dX4_readLean_86 ?_
          refine g_iconst (pc := 87) X (iI 0) (by rfl) dX4_readLean_87 ?_
          refine g_bipush (pc := 88) X (iI 50) (by decide) dX4_readLean_88 ?_
          refine g_callV (pc := 90) X (k_X4_readNumber l Z e0 t0 r0 t_bytes t_kinds t_places t_values Tk Tv 0 50 y19 ts tk (by decide) (by decide) hf74_b_to2 b_ts b_tk (h_Tk) (h_Tv)) iM_X4_readNumber mw_16_22 mw_16_23 mw_17_0 5 rfl rfl [5, 6, 7, 4] [0, 1, 2, 3] rfl (wr := [cO_rirrrrrrirrr r0 6 w0 ro r_doors r_openingWalls r_froms r_tos r_lowers r_uppers rs r_standWalls r_standXs r_standYs, cO_rrrrrrii w0 10 w_begins w_lengths w_lefts w_rights w_leans w_leaning wn wr, cA Z w_leans 0 8 Wm, cA Z w_leaning 2 8 Wz]) rfl (by decide) rfl rfl (Nat.le_of_ble_eq_true rfl) (by decide) dX4_readLean_90 (fun r w' hpo => ?_)
          rcases hpo with hp0 | hp1
          · obtain ⟨rfl, rfl⟩ := hp0
            refine g_as (pc' := 93) (lv' := [(2, .int (iI (-1))), (1, .int (iI y3)), (0, .ref e0)]) (st' := [.int (iI (-1))]) (ws' := [cO_rirrrrrrirrr r0 6 w0 ro r_doors r_openingWalls r_froms r_tos r_lowers r_uppers rs r_standWalls r_standXs r_standYs, cO_rrrrrrii w0 10 w_begins w_lengths w_lefts w_rights w_leans w_leaning wn wr, cA Z w_leans 0 8 Wm, cA Z w_leaning 2 8 Wz, cO_rri e0 4 t0 r0 y19, cO_riirrr t0 9 t_bytes ts tk t_kinds t_places t_values, cA Z t_kinds 0 401 Tk, cA Z t_values 0 401 Tv]) rfl rfl rfl rfl ?_
            refine g_istore_n (pc := 93) X (i := 3) rfl (by decide) (lv' := [(3, .int (iI (-1))), (2, .int (iI (-1))), (1, .int (iI y3)), (0, .ref e0)]) rfl dX4_readLean_93 ?_
            refine g_iload_n (pc := 94) X 0 rfl dX4_readLean_94 ?_
            refine g_iconst (pc := 95) X (iI (-1)) (by rfl) dX4_readLean_95 ?_
            refine g_icmp_eqI (pc := 96) X 108 (by decide) ⟨by decide, by decide⟩ ⟨by decide, by decide⟩ dX4_readLean_96 (fun _ => ?_) (fun h => absurd h (by decide))
            refine g_iconst (pc := 108) X (iI 0) (by rfl) dX4_readLean_108 ?_
            refine g_ws (ws' := [cO_rri e0 4 t0 r0 y19, cO_riirrr t0 9 t_bytes ts tk t_kinds t_places t_values, cA Z t_kinds 0 401 Tk, cA Z t_values 0 401 Tv, cO_rirrrrrrirrr r0 6 w0 ro r_doors r_openingWalls r_froms r_tos r_lowers r_uppers rs r_standWalls r_standXs r_standYs, cO_rrrrrrii w0 10 w_begins w_lengths w_lefts w_rights w_leans w_leaning wn wr, cA Z w_leans 0 8 Wm, cA Z w_leaning 2 8 Wz]) [4, 5, 6, 7, 0, 1, 2, 3] (by decide) rfl ?_
            exact g_zret (pc := 109) X hA (rfl) (⟨Wm, Wz, y19, 0, rfl, rfl, (hf74_b_to2), (by (first | (clear b_ts b_ro b_rs b_wr; omega) | omega)), (h_Wm), (h_Wz), (by (first | (clear b_ts b_ro b_rs b_wr; omega) | omega)), (by (first | (clear b_ts b_ro b_rs b_wr; omega) | omega))⟩) (by decide) (by decide) dX4_readLean_109
          · refine exN_2 hp1 fun y22 y23 hz => anD_7 hz fun e_r e_w hf90_b_y hf90_b_to2 hf90_f1 hf90_f2 hf90_f3 => ?_; clear hz hp1; subst e_r; subst e_w
            refine g_as (pc' := 93) (lv' := [(2, .int (iI (-1))), (1, .int (iI y3)), (0, .ref e0)]) (st' := [.int (iI y22)]) (ws' := [cO_rirrrrrrirrr r0 6 w0 ro r_doors r_openingWalls r_froms r_tos r_lowers r_uppers rs r_standWalls r_standXs r_standYs, cO_rrrrrrii w0 10 w_begins w_lengths w_lefts w_rights w_leans w_leaning wn wr, cA Z w_leans 0 8 Wm, cA Z w_leaning 2 8 Wz, cO_rri e0 4 t0 r0 y23, cO_riirrr t0 9 t_bytes ts tk t_kinds t_places t_values, cA Z t_kinds 0 401 Tk, cA Z t_values 0 401 Tv]) rfl rfl rfl rfl ?_
            have tt25 : 0 ≤ y22 ∧ y22 ≤ 50 := by (first | (clear b_ts b_ro b_rs b_wr; omega) | omega)
            refine g_istore_n (pc := 93) X (i := 3) rfl (by decide) (lv' := [(3, .int (iI y22)), (2, .int (iI (-1))), (1, .int (iI y3)), (0, .ref e0)]) rfl dX4_readLean_93 ?_
            refine g_iload_n (pc := 94) X 0 rfl dX4_readLean_94 ?_
            refine g_iconst (pc := 95) X (iI (-1)) (by rfl) dX4_readLean_95 ?_
            refine g_icmp_eqI (pc := 96) X 108 (by decide) (inRb hf90_b_y (by decide) (by decide)) ⟨by decide, by decide⟩ dX4_readLean_96 (fun c96 => ?_) (fun c96 => ?_)
            · refine g_iconst (pc := 108) X (iI 0) (by rfl) dX4_readLean_108 ?_
              refine g_ws (ws' := [cO_rri e0 4 t0 r0 y23, cO_riirrr t0 9 t_bytes ts tk t_kinds t_places t_values, cA Z t_kinds 0 401 Tk, cA Z t_values 0 401 Tv, cO_rirrrrrrirrr r0 6 w0 ro r_doors r_openingWalls r_froms r_tos r_lowers r_uppers rs r_standWalls r_standXs r_standYs, cO_rrrrrrii w0 10 w_begins w_lengths w_lefts w_rights w_leans w_leaning wn wr, cA Z w_leans 0 8 Wm, cA Z w_leaning 2 8 Wz]) [4, 5, 6, 7, 0, 1, 2, 3] (by decide) rfl ?_
              exact g_zret (pc := 109) X hA (rfl) (⟨Wm, Wz, y23, 0, rfl, rfl, (hf90_b_to2), (by (first | (clear b_ts b_ro b_rs b_wr; omega) | omega)), (h_Wm), (h_Wz), (by (first | (clear b_ts b_ro b_rs b_wr; omega) | omega)), (by (first | (clear b_ts b_ro b_rs b_wr; omega) | omega))⟩) (by decide) (by decide) dX4_readLean_109
            · refine g_aload_n (pc := 99) X 3 rfl dX4_readLean_99 ?_
              refine g_bipush (pc := 100) X (iI 8) (by decide) dX4_readLean_100 ?_
              refine g_callV (pc := 102) X (k_X4_readSign l Z e0 t0 r0 t_bytes t_kinds t_places t_values Tk 8 y23 ts tk (by decide) hf90_b_to2 b_ts b_tk (h_Tk)) iM_X4_readSign mw_17_3 mw_17_4 mw_17_5 4 rfl rfl [4, 5, 6] [0, 1, 2, 3, 7] rfl (wr := [cO_rirrrrrrirrr r0 6 w0 ro r_doors r_openingWalls r_froms r_tos r_lowers r_uppers rs r_standWalls r_standXs r_standYs, cO_rrrrrrii w0 10 w_begins w_lengths w_lefts w_rights w_leans w_leaning wn wr, cA Z w_leans 0 8 Wm, cA Z w_leaning 2 8 Wz, cA Z t_values 0 401 Tv]) rfl (by decide) rfl rfl (Nat.le_of_ble_eq_true rfl) (by decide) dX4_readLean_102 (fun r w' hpo => ?_)
              rcases hpo with hp0 | hp1
              · obtain ⟨rfl, rfl⟩ := hp0
                refine g_as (pc' := 105) (lv' := [(3, .int (iI y22)), (2, .int (iI (-1))), (1, .int (iI y3)), (0, .ref e0)]) (st' := [.int (iI 0)]) (ws' := [cO_rirrrrrrirrr r0 6 w0 ro r_doors r_openingWalls r_froms r_tos r_lowers r_uppers rs r_standWalls r_standXs r_standYs, cO_rrrrrrii w0 10 w_begins w_lengths w_lefts w_rights w_leans w_leaning wn wr, cA Z w_leans 0 8 Wm, cA Z w_leaning 2 8 Wz, cA Z t_values 0 401 Tv, cO_rri e0 4 t0 r0 y23, cO_riirrr t0 9 t_bytes ts tk t_kinds t_places t_values, cA Z t_kinds 0 401 Tk]) rfl rfl rfl rfl ?_
                refine g_if_neI (pc := 105) X 110 (by decide) ⟨by decide, by decide⟩ dX4_readLean_105 (fun h => absurd h (by decide)) (fun _ => ?_)
                refine g_iconst (pc := 108) X (iI 0) (by rfl) dX4_readLean_108 ?_
                refine g_ws (ws' := [cO_rri e0 4 t0 r0 y23, cO_riirrr t0 9 t_bytes ts tk t_kinds t_places t_values, cA Z t_kinds 0 401 Tk, cA Z t_values 0 401 Tv, cO_rirrrrrrirrr r0 6 w0 ro r_doors r_openingWalls r_froms r_tos r_lowers r_uppers rs r_standWalls r_standXs r_standYs, cO_rrrrrrii w0 10 w_begins w_lengths w_lefts w_rights w_leans w_leaning wn wr, cA Z w_leans 0 8 Wm, cA Z w_leaning 2 8 Wz]) [5, 6, 7, 4, 0, 1, 2, 3] (by decide) rfl ?_
                exact g_zret (pc := 109) X hA (rfl) (⟨Wm, Wz, y23, 0, rfl, rfl, (hf90_b_to2), (by (first | (clear b_ts b_ro b_rs b_wr; omega) | omega)), (h_Wm), (h_Wz), (by (first | (clear b_ts b_ro b_rs b_wr; omega) | omega)), (by (first | (clear b_ts b_ro b_rs b_wr; omega) | omega))⟩) (by decide) (by decide) dX4_readLean_109
              · refine exN_1 hp1 fun y27 hz => anD_5 hz fun e_r e_w hf102_b_to2 hf102_f2 hf102_f3 => ?_; clear hz hp1; subst e_r; subst e_w
                refine g_as (pc' := 105) (lv' := [(3, .int (iI y22)), (2, .int (iI (-1))), (1, .int (iI y3)), (0, .ref e0)]) (st' := [.int (iI 1)]) (ws' := [cO_rirrrrrrirrr r0 6 w0 ro r_doors r_openingWalls r_froms r_tos r_lowers r_uppers rs r_standWalls r_standXs r_standYs, cO_rrrrrrii w0 10 w_begins w_lengths w_lefts w_rights w_leans w_leaning wn wr, cA Z w_leans 0 8 Wm, cA Z w_leaning 2 8 Wz, cA Z t_values 0 401 Tv, cO_rri e0 4 t0 r0 y27, cO_riirrr t0 9 t_bytes ts tk t_kinds t_places t_values, cA Z t_kinds 0 401 Tk]) rfl rfl rfl rfl ?_
                refine g_if_neI (pc := 105) X 110 (by decide) ⟨by decide, by decide⟩ dX4_readLean_105 (fun _ => ?_) (fun h => absurd h (by decide))
                refine g_aload_n (pc := 110) X 3 rfl dX4_readLean_110 ?_
                refine g_get (pc := 111) X inlX4 5 rfl rfl 1 (by decide) mw_12_1 rfl dX4_readLean_111 ?_
                refine g_get (pc := 114) X inlX6 0 rfl rfl 0 (by decide) mw_12_2 rfl dX4_readLean_114 ?_
                refine g_iload_n (pc := 117) X 2 rfl dX4_readLean_117 ?_
                refine g_iload_n (pc := 118) X 1 rfl dX4_readLean_118 ?_
                refine g_iload_n (pc := 119) X 0 rfl dX4_readLean_119 ?_
                refine g_imulI (pc := 120) X dX4_readLean_120 ?_
                refine g_callV (pc := 121) X (k_X10_lean l Z w0 w_begins w_lengths w_lefts w_rights w_leans w_leaning Wm Wz y3 ((-1) * y22) wn wr (by (first | (clear b_ts b_ro b_rs b_wr; omega) | omega)) (by (first | (clear b_ts b_ro b_rs b_wr; omega) | omega)) b_wn b_wr (h_Wm) (h_Wz)) iM_X10_lean mw_18_20 mw_18_21 mw_18_22 1 rfl rfl [1, 2, 3] [0, 4, 5, 6, 7] rfl (wr := [cO_rirrrrrrirrr r0 6 w0 ro r_doors r_openingWalls r_froms r_tos r_lowers r_uppers rs r_standWalls r_standXs r_standYs, cA Z t_values 0 401 Tv, cO_rri e0 4 t0 r0 y27, cO_riirrr t0 9 t_bytes ts tk t_kinds t_places t_values, cA Z t_kinds 0 401 Tk]) rfl (by decide) rfl rfl (Nat.le_of_ble_eq_true rfl) (by decide) dX4_readLean_121 (fun r w' hpo => ?_)
                refine exN_2 hpo fun F29 F30 hz => anD_4 hz fun e_r e_w hf121_h_Wm2 hf121_h_Wz2 => ?_; clear hz hpo; subst e_r; subst e_w
                refine g_as (pc' := 124) (lv' := [(3, .int (iI y22)), (2, .int (iI (-1))), (1, .int (iI y3)), (0, .ref e0)]) (st' := []) (ws' := [cO_rirrrrrrirrr r0 6 w0 ro r_doors r_openingWalls r_froms r_tos r_lowers r_uppers rs r_standWalls r_standXs r_standYs, cA Z t_values 0 401 Tv, cO_rri e0 4 t0 r0 y27, cO_riirrr t0 9 t_bytes ts tk t_kinds t_places t_values, cA Z t_kinds 0 401 Tk, cO_rrrrrrii w0 10 w_begins w_lengths w_lefts w_rights w_leans w_leaning wn wr, cA Z w_leans 0 8 F29, cA Z w_leaning 2 8 F30]) rfl rfl rfl rfl ?_
                refine g_iconst (pc := 124) X (iI 1) (by rfl) dX4_readLean_124 ?_
                refine g_ws (ws' := [cO_rri e0 4 t0 r0 y27, cO_riirrr t0 9 t_bytes ts tk t_kinds t_places t_values, cA Z t_kinds 0 401 Tk, cA Z t_values 0 401 Tv, cO_rirrrrrrirrr r0 6 w0 ro r_doors r_openingWalls r_froms r_tos r_lowers r_uppers rs r_standWalls r_standXs r_standYs, cO_rrrrrrii w0 10 w_begins w_lengths w_lefts w_rights w_leans w_leaning wn wr, cA Z w_leans 0 8 F29, cA Z w_leaning 2 8 F30]) [2, 3, 4, 1, 0, 5, 6, 7] (by decide) rfl ?_
                exact g_zret (pc := 125) X hA (rfl) (⟨F29, F30, y27, 1, rfl, rfl, (hf102_b_to2), (by (first | (clear b_ts b_ro b_rs b_wr; omega) | omega)), (hf121_h_Wm2), (hf121_h_Wz2), (by (first | (clear b_ts b_ro b_rs b_wr; omega) | omega)), (by (first | (clear b_ts b_ro b_rs b_wr; omega) | omega))⟩) (by decide) (by decide) dX4_readLean_125
      · refine g_iconst (pc := 69) X (iI 0) (by rfl) dX4_readLean_69 ?_
        refine g_ws (ws' := [cO_rri e0 4 t0 r0 y4, cO_riirrr t0 9 t_bytes ts tk t_kinds t_places t_values, cA Z t_kinds 0 401 Tk, cA Z t_values 0 401 Tv, cO_rirrrrrrirrr r0 6 w0 ro r_doors r_openingWalls r_froms r_tos r_lowers r_uppers rs r_standWalls r_standXs r_standYs, cO_rrrrrrii w0 10 w_begins w_lengths w_lefts w_rights w_leans w_leaning wn wr, cA Z w_leans 0 8 Wm, cA Z w_leaning 2 8 Wz]) [4, 5, 6, 7, 0, 1, 2, 3] (by decide) rfl ?_
        exact g_zret (pc := 70) X hA (rfl) (⟨Wm, Wz, y4, 0, rfl, rfl, (hf60_b_to2), (by (first | (clear b_ts b_ro b_rs b_wr; omega) | omega)), (h_Wm), (h_Wz), (by (first | (clear b_ts b_ro b_rs b_wr; omega) | omega)), (by (first | (clear b_ts b_ro b_rs b_wr; omega) | omega))⟩) (by decide) (by decide) dX4_readLean_70
  · refine g_aload_n (pc := 19) X 0 rfl dX4_readLean_19 ?_
    refine g_get (pc := 20) X inlX4 5 rfl rfl 1 (by decide) mw_12_1 rfl dX4_readLean_20 ?_
    refine g_get (pc := 23) X inlX6 1 rfl rfl 0 (by decide) mw_12_2 rfl dX4_readLean_23 ?_
    refine g_aload_n (pc := 26) X 0 rfl dX4_readLean_26 ?_
    refine g_get (pc := 27) X inlX4 5 rfl rfl 0 (by decide) mw_3_20 rfl dX4_readLean_27 ?_
    refine g_get (pc := 30) X inlX9 6 rfl rfl 5 (by decide) mw_17_2 rfl dX4_readLean_30 ?_
    refine g_aload_n (pc := 33) X 0 rfl dX4_readLean_33 ?_
    refine g_get (pc := 34) X inlX4 5 rfl rfl 2 (by decide) mw_12_0 rfl dX4_readLean_34 ?_
    refine g_ialdI (pc := 37) X 0 rfl (by (first | (clear b_ts b_ro b_rs b_wr; omega) | omega)) (by (first | (clear b_ts b_ro b_rs b_wr; omega) | omega)) (by (first | (clear b_ts b_ro b_rs b_wr; omega) | omega)) dX4_readLean_37 ?_
    refine g_nameI (fun y32 ey32 => ?_)
    have by32 : 0 ≤ y32 ∧ y32 ≤ 100000 := by rw [ey32]; exact h_Tv _ (by (first | (clear b_ts b_ro b_rs b_wr; omega) | omega))
    refine g_callV (pc := 38) X (k_X10_leansAt l Z w0 w_begins w_lengths w_lefts w_rights w_leans w_leaning Wz y32 wn wr (by (first | (clear b_ts b_ro b_rs b_wr; omega) | omega)) b_wn b_wr (h_Wz)) iM_X10_leansAt mw_18_16 mw_18_17 mw_18_18 2 rfl rfl [2, 4] [0, 1, 3, 5, 6, 7] rfl (wr := [cA Z t_values 0 401 Tv, cO_rirrrrrrirrr r0 6 w0 ro r_doors r_openingWalls r_froms r_tos r_lowers r_uppers rs r_standWalls r_standXs r_standYs, cA Z w_leans 0 8 Wm, cO_rri e0 4 t0 r0 (to0 + 1), cO_riirrr t0 9 t_bytes ts tk t_kinds t_places t_values, cA Z t_kinds 0 401 Tk]) rfl (by decide) rfl rfl (Nat.le_of_ble_eq_true rfl) (by decide) dX4_readLean_38 (fun r w' hpo => ?_)
    refine exN_1 hpo fun y33 hz => anD_3 hz fun e_r e_w hf38_b_y => ?_; clear hz hpo; subst e_r; subst e_w
    refine g_as (pc' := 41) (lv' := [(0, .ref e0)]) (st' := [.int (iI y33)]) (ws' := [cA Z t_values 0 401 Tv, cO_rirrrrrrirrr r0 6 w0 ro r_doors r_openingWalls r_froms r_tos r_lowers r_uppers rs r_standWalls r_standXs r_standYs, cA Z w_leans 0 8 Wm, cO_rri e0 4 t0 r0 (to0 + 1), cO_riirrr t0 9 t_bytes ts tk t_kinds t_places t_values, cA Z t_kinds 0 401 Tk, cO_rrrrrrii w0 10 w_begins w_lengths w_lefts w_rights w_leans w_leaning wn wr, cA Z w_leaning 2 8 Wz]) rfl rfl rfl rfl ?_
    refine g_if_eqI (pc := 41) X 46 (by decide) (inRb hf38_b_y (by decide) (by decide)) dX4_readLean_41 (fun c41 => ?_) (fun c41 => ?_)
    · refine g_aload_n (pc := 46) X 0 rfl dX4_readLean_46 ?_
      refine g_iconst (pc := 47) X (iI 0) (by rfl) dX4_readLean_47 ?_
      refine g_aload_n (pc := 48) X 0 rfl dX4_readLean_48 ?_
      refine g_get (pc := 49) X inlX4 3 rfl rfl 1 (by decide) mw_12_1 rfl dX4_readLean_49 ?_
      refine g_get (pc := 52) X inlX6 1 rfl rfl 0 (by decide) mw_12_2 rfl dX4_readLean_52 ?_
      refine g_get (pc := 55) X inlX10 6 rfl rfl 6 (by decide) mw_12_3 rfl dX4_readLean_55 ?_
      refine g_iconst (pc := 58) X (iI 1) (by rfl) dX4_readLean_58 ?_
      refine g_isubI (pc := 59) X dX4_readLean_59 ?_
      refine g_callV (pc := 60) X (k_X4_readNumber l Z e0 t0 r0 t_bytes t_kinds t_places t_values Tk Tv 0 (wn - 1) (to0 + 1) ts tk (by decide) (by (first | (clear b_ts b_ro b_rs b_wr; omega) | omega)) (by (first | (clear b_ts b_ro b_rs b_wr; omega) | omega)) b_ts b_tk (h_Tk) (h_Tv)) iM_X4_readNumber mw_16_22 mw_16_23 mw_17_0 3 rfl rfl [3, 4, 5, 0] [1, 2, 6, 7] rfl (wr := [cO_rirrrrrrirrr r0 6 w0 ro r_doors r_openingWalls r_froms r_tos r_lowers r_uppers rs r_standWalls r_standXs r_standYs, cA Z w_leans 0 8 Wm, cO_rrrrrrii w0 10 w_begins w_lengths w_lefts w_rights w_leans w_leaning wn wr, cA Z w_leaning 2 8 Wz]) rfl (by decide) rfl rfl (Nat.le_of_ble_eq_true rfl) (by decide) dX4_readLean_60 (fun r w' hpo => ?_)
      rcases hpo with hp0 | hp1
      · obtain ⟨rfl, rfl⟩ := hp0
        refine g_as (pc' := 63) (lv' := [(0, .ref e0)]) (st' := [.int (iI (-1))]) (ws' := [cO_rirrrrrrirrr r0 6 w0 ro r_doors r_openingWalls r_froms r_tos r_lowers r_uppers rs r_standWalls r_standXs r_standYs, cA Z w_leans 0 8 Wm, cO_rrrrrrii w0 10 w_begins w_lengths w_lefts w_rights w_leans w_leaning wn wr, cA Z w_leaning 2 8 Wz, cO_rri e0 4 t0 r0 (to0 + 1), cO_riirrr t0 9 t_bytes ts tk t_kinds t_places t_values, cA Z t_kinds 0 401 Tk, cA Z t_values 0 401 Tv]) rfl rfl rfl rfl ?_
        refine g_istore_n (pc := 63) X (i := 1) rfl (by decide) (lv' := [(1, .int (iI (-1))), (0, .ref e0)]) rfl dX4_readLean_63 ?_
        refine g_iload_n (pc := 64) X 0 rfl dX4_readLean_64 ?_
        refine g_iconst (pc := 65) X (iI (-1)) (by rfl) dX4_readLean_65 ?_
        refine g_icmp_neI (pc := 66) X 71 (by decide) ⟨by decide, by decide⟩ ⟨by decide, by decide⟩ dX4_readLean_66 (fun h => absurd h (by decide)) (fun _ => ?_)
        refine g_iconst (pc := 69) X (iI 0) (by rfl) dX4_readLean_69 ?_
        refine g_ws (ws' := [cO_rri e0 4 t0 r0 (to0 + 1), cO_riirrr t0 9 t_bytes ts tk t_kinds t_places t_values, cA Z t_kinds 0 401 Tk, cA Z t_values 0 401 Tv, cO_rirrrrrrirrr r0 6 w0 ro r_doors r_openingWalls r_froms r_tos r_lowers r_uppers rs r_standWalls r_standXs r_standYs, cO_rrrrrrii w0 10 w_begins w_lengths w_lefts w_rights w_leans w_leaning wn wr, cA Z w_leans 0 8 Wm, cA Z w_leaning 2 8 Wz]) [4, 5, 6, 7, 0, 2, 1, 3] (by decide) rfl ?_
        exact g_zret (pc := 70) X hA (rfl) (⟨Wm, Wz, (to0 + 1), 0, rfl, rfl, (by (first | (clear b_ts b_ro b_rs b_wr; omega) | omega)), (by (first | (clear b_ts b_ro b_rs b_wr; omega) | omega)), (h_Wm), (h_Wz), (by (first | (clear b_ts b_ro b_rs b_wr; omega) | omega)), (by (first | (clear b_ts b_ro b_rs b_wr; omega) | omega))⟩) (by decide) (by decide) dX4_readLean_70
      · refine exN_2 hp1 fun y36 y37 hz => anD_7 hz fun e_r e_w hf60_b_y hf60_b_to2 hf60_f1 hf60_f2 hf60_f3 => ?_; clear hz hp1; subst e_r; subst e_w
        refine g_as (pc' := 63) (lv' := [(0, .ref e0)]) (st' := [.int (iI y36)]) (ws' := [cO_rirrrrrrirrr r0 6 w0 ro r_doors r_openingWalls r_froms r_tos r_lowers r_uppers rs r_standWalls r_standXs r_standYs, cA Z w_leans 0 8 Wm, cO_rrrrrrii w0 10 w_begins w_lengths w_lefts w_rights w_leans w_leaning wn wr, cA Z w_leaning 2 8 Wz, cO_rri e0 4 t0 r0 y37, cO_riirrr t0 9 t_bytes ts tk t_kinds t_places t_values, cA Z t_kinds 0 401 Tk, cA Z t_values 0 401 Tv]) rfl rfl rfl rfl ?_
        have tt39 : 0 ≤ y36 ∧ y36 ≤ 7 := by (first | (clear b_ts b_ro b_rs b_wr; omega) | omega)
        refine g_istore_n (pc := 63) X (i := 1) rfl (by decide) (lv' := [(1, .int (iI y36)), (0, .ref e0)]) rfl dX4_readLean_63 ?_
        refine g_iload_n (pc := 64) X 0 rfl dX4_readLean_64 ?_
        refine g_iconst (pc := 65) X (iI (-1)) (by rfl) dX4_readLean_65 ?_
        refine g_icmp_neI (pc := 66) X 71 (by decide) (inRb hf60_b_y (by decide) (by decide)) ⟨by decide, by decide⟩ dX4_readLean_66 (fun c66 => ?_) (fun c66 => ?_)
        · refine g_aload_n (pc := 71) X 1 rfl dX4_readLean_71 ?_
          refine g_bipush (pc := 72) X (iI 7) (by decide) dX4_readLean_72 ?_
          refine g_callV (pc := 74) X (k_X4_readSign l Z e0 t0 r0 t_bytes t_kinds t_places t_values Tk 7 y37 ts tk (by decide) hf60_b_to2 b_ts b_tk (h_Tk)) iM_X4_readSign mw_17_3 mw_17_4 mw_17_5 4 rfl rfl [4, 5, 6] [0, 1, 2, 3, 7] rfl (wr := [cO_rirrrrrrirrr r0 6 w0 ro r_doors r_openingWalls r_froms r_tos r_lowers r_uppers rs r_standWalls r_standXs r_standYs, cA Z w_leans 0 8 Wm, cO_rrrrrrii w0 10 w_begins w_lengths w_lefts w_rights w_leans w_leaning wn wr, cA Z w_leaning 2 8 Wz, cA Z t_values 0 401 Tv]) rfl (by decide) rfl rfl (Nat.le_of_ble_eq_true rfl) (by decide) dX4_readLean_74 (fun r w' hpo => ?_)
          rcases hpo with hp0 | hp1
          · obtain ⟨rfl, rfl⟩ := hp0
            refine g_as (pc' := 77) (lv' := [(1, .int (iI y36)), (0, .ref e0)]) (st' := [.int (iI 0)]) (ws' := [cO_rirrrrrrirrr r0 6 w0 ro r_doors r_openingWalls r_froms r_tos r_lowers r_uppers rs r_standWalls r_standXs r_standYs, cA Z w_leans 0 8 Wm, cO_rrrrrrii w0 10 w_begins w_lengths w_lefts w_rights w_leans w_leaning wn wr, cA Z w_leaning 2 8 Wz, cA Z t_values 0 401 Tv, cO_rri e0 4 t0 r0 y37, cO_riirrr t0 9 t_bytes ts tk t_kinds t_places t_values, cA Z t_kinds 0 401 Tk]) rfl rfl rfl rfl ?_
            refine g_if_eqI (pc := 77) X 84 (by decide) ⟨by decide, by decide⟩ dX4_readLean_77 (fun _ => ?_) (fun h => absurd h (by decide))
            refine g_iconst (pc := 84) X (iI 1) (by rfl) dX4_readLean_84 ?_
            refine g_istore_n (pc := 85) X (i := 2) rfl (by decide) (lv' := [(2, .int (iI 1)), (1, .int (iI y36)), (0, .ref e0)]) rfl dX4_readLean_85 ?_
            refine g_aload_n (pc := 86) X 2 rfl dX4_readLean_86 ?_
            refine g_iconst (pc := 87) X (iI 0) (by rfl) dX4_readLean_87 ?_
            refine g_bipush (pc := 88) X (iI 50) (by decide) dX4_readLean_88 ?_
            refine g_callV (pc := 90) X (k_X4_readNumber l Z e0 t0 r0 t_bytes t_kinds t_places t_values Tk Tv 0 50 y37 ts tk (by decide) (by decide) hf60_b_to2 b_ts b_tk (h_Tk) (h_Tv)) iM_X4_readNumber mw_16_22 mw_16_23 mw_17_0 5 rfl rfl [5, 6, 7, 4] [0, 1, 2, 3] rfl (wr := [cO_rirrrrrrirrr r0 6 w0 ro r_doors r_openingWalls r_froms r_tos r_lowers r_uppers rs r_standWalls r_standXs r_standYs, cA Z w_leans 0 8 Wm, cO_rrrrrrii w0 10 w_begins w_lengths w_lefts w_rights w_leans w_leaning wn wr, cA Z w_leaning 2 8 Wz]) rfl (by decide) rfl rfl (Nat.le_of_ble_eq_true rfl) (by decide) dX4_readLean_90 (fun r w' hpo => ?_)
            rcases hpo with hp0 | hp1
            · obtain ⟨rfl, rfl⟩ := hp0
              refine g_as (pc' := 93) (lv' := [(2, .int (iI 1)), (1, .int (iI y36)), (0, .ref e0)]) (st' := [.int (iI (-1))]) (ws' := [cO_rirrrrrrirrr r0 6 w0 ro r_doors r_openingWalls r_froms r_tos r_lowers r_uppers rs r_standWalls r_standXs r_standYs, cA Z w_leans 0 8 Wm, cO_rrrrrrii w0 10 w_begins w_lengths w_lefts w_rights w_leans w_leaning wn wr, cA Z w_leaning 2 8 Wz, cO_rri e0 4 t0 r0 y37, cO_riirrr t0 9 t_bytes ts tk t_kinds t_places t_values, cA Z t_kinds 0 401 Tk, cA Z t_values 0 401 Tv]) rfl rfl rfl rfl ?_
              refine g_istore_n (pc := 93) X (i := 3) rfl (by decide) (lv' := [(3, .int (iI (-1))), (2, .int (iI 1)), (1, .int (iI y36)), (0, .ref e0)]) rfl dX4_readLean_93 ?_
              refine g_iload_n (pc := 94) X 0 rfl dX4_readLean_94 ?_
              refine g_iconst (pc := 95) X (iI (-1)) (by rfl) dX4_readLean_95 ?_
              refine g_icmp_eqI (pc := 96) X 108 (by decide) ⟨by decide, by decide⟩ ⟨by decide, by decide⟩ dX4_readLean_96 (fun _ => ?_) (fun h => absurd h (by decide))
              refine g_iconst (pc := 108) X (iI 0) (by rfl) dX4_readLean_108 ?_
              refine g_ws (ws' := [cO_rri e0 4 t0 r0 y37, cO_riirrr t0 9 t_bytes ts tk t_kinds t_places t_values, cA Z t_kinds 0 401 Tk, cA Z t_values 0 401 Tv, cO_rirrrrrrirrr r0 6 w0 ro r_doors r_openingWalls r_froms r_tos r_lowers r_uppers rs r_standWalls r_standXs r_standYs, cO_rrrrrrii w0 10 w_begins w_lengths w_lefts w_rights w_leans w_leaning wn wr, cA Z w_leans 0 8 Wm, cA Z w_leaning 2 8 Wz]) [4, 5, 6, 7, 0, 2, 1, 3] (by decide) rfl ?_
              exact g_zret (pc := 109) X hA (rfl) (⟨Wm, Wz, y37, 0, rfl, rfl, (hf60_b_to2), (by (first | (clear b_ts b_ro b_rs b_wr; omega) | omega)), (h_Wm), (h_Wz), (by (first | (clear b_ts b_ro b_rs b_wr; omega) | omega)), (by (first | (clear b_ts b_ro b_rs b_wr; omega) | omega))⟩) (by decide) (by decide) dX4_readLean_109
            · refine exN_2 hp1 fun y42 y43 hz => anD_7 hz fun e_r e_w hf90_b_y hf90_b_to2 hf90_f1 hf90_f2 hf90_f3 => ?_; clear hz hp1; subst e_r; subst e_w
              refine g_as (pc' := 93) (lv' := [(2, .int (iI 1)), (1, .int (iI y36)), (0, .ref e0)]) (st' := [.int (iI y42)]) (ws' := [cO_rirrrrrrirrr r0 6 w0 ro r_doors r_openingWalls r_froms r_tos r_lowers r_uppers rs r_standWalls r_standXs r_standYs, cA Z w_leans 0 8 Wm, cO_rrrrrrii w0 10 w_begins w_lengths w_lefts w_rights w_leans w_leaning wn wr, cA Z w_leaning 2 8 Wz, cO_rri e0 4 t0 r0 y43, cO_riirrr t0 9 t_bytes ts tk t_kinds t_places t_values, cA Z t_kinds 0 401 Tk, cA Z t_values 0 401 Tv]) rfl rfl rfl rfl ?_
              have tt45 : 0 ≤ y42 ∧ y42 ≤ 50 := by (first | (clear b_ts b_ro b_rs b_wr; omega) | omega)
              refine g_istore_n (pc := 93) X (i := 3) rfl (by decide) (lv' := [(3, .int (iI y42)), (2, .int (iI 1)), (1, .int (iI y36)), (0, .ref e0)]) rfl dX4_readLean_93 ?_
              refine g_iload_n (pc := 94) X 0 rfl dX4_readLean_94 ?_
              refine g_iconst (pc := 95) X (iI (-1)) (by rfl) dX4_readLean_95 ?_
              refine g_icmp_eqI (pc := 96) X 108 (by decide) (inRb hf90_b_y (by decide) (by decide)) ⟨by decide, by decide⟩ dX4_readLean_96 (fun c96 => ?_) (fun c96 => ?_)
              · refine g_iconst (pc := 108) X (iI 0) (by rfl) dX4_readLean_108 ?_
                refine g_ws (ws' := [cO_rri e0 4 t0 r0 y43, cO_riirrr t0 9 t_bytes ts tk t_kinds t_places t_values, cA Z t_kinds 0 401 Tk, cA Z t_values 0 401 Tv, cO_rirrrrrrirrr r0 6 w0 ro r_doors r_openingWalls r_froms r_tos r_lowers r_uppers rs r_standWalls r_standXs r_standYs, cO_rrrrrrii w0 10 w_begins w_lengths w_lefts w_rights w_leans w_leaning wn wr, cA Z w_leans 0 8 Wm, cA Z w_leaning 2 8 Wz]) [4, 5, 6, 7, 0, 2, 1, 3] (by decide) rfl ?_
                exact g_zret (pc := 109) X hA (rfl) (⟨Wm, Wz, y43, 0, rfl, rfl, (hf90_b_to2), (by (first | (clear b_ts b_ro b_rs b_wr; omega) | omega)), (h_Wm), (h_Wz), (by (first | (clear b_ts b_ro b_rs b_wr; omega) | omega)), (by (first | (clear b_ts b_ro b_rs b_wr; omega) | omega))⟩) (by decide) (by decide) dX4_readLean_109
              · refine g_aload_n (pc := 99) X 3 rfl dX4_readLean_99 ?_
                refine g_bipush (pc := 100) X (iI 8) (by decide) dX4_readLean_100 ?_
                refine g_callV (pc := 102) X (k_X4_readSign l Z e0 t0 r0 t_bytes t_kinds t_places t_values Tk 8 y43 ts tk (by decide) hf90_b_to2 b_ts b_tk (h_Tk)) iM_X4_readSign mw_17_3 mw_17_4 mw_17_5 4 rfl rfl [4, 5, 6] [0, 1, 2, 3, 7] rfl (wr := [cO_rirrrrrrirrr r0 6 w0 ro r_doors r_openingWalls r_froms r_tos r_lowers r_uppers rs r_standWalls r_standXs r_standYs, cA Z w_leans 0 8 Wm, cO_rrrrrrii w0 10 w_begins w_lengths w_lefts w_rights w_leans w_leaning wn wr, cA Z w_leaning 2 8 Wz, cA Z t_values 0 401 Tv]) rfl (by decide) rfl rfl (Nat.le_of_ble_eq_true rfl) (by decide) dX4_readLean_102 (fun r w' hpo => ?_)
                rcases hpo with hp0 | hp1
                · obtain ⟨rfl, rfl⟩ := hp0
                  refine g_as (pc' := 105) (lv' := [(3, .int (iI y42)), (2, .int (iI 1)), (1, .int (iI y36)), (0, .ref e0)]) (st' := [.int (iI 0)]) (ws' := [cO_rirrrrrrirrr r0 6 w0 ro r_doors r_openingWalls r_froms r_tos r_lowers r_uppers rs r_standWalls r_standXs r_standYs, cA Z w_leans 0 8 Wm, cO_rrrrrrii w0 10 w_begins w_lengths w_lefts w_rights w_leans w_leaning wn wr, cA Z w_leaning 2 8 Wz, cA Z t_values 0 401 Tv, cO_rri e0 4 t0 r0 y43, cO_riirrr t0 9 t_bytes ts tk t_kinds t_places t_values, cA Z t_kinds 0 401 Tk]) rfl rfl rfl rfl ?_
                  refine g_if_neI (pc := 105) X 110 (by decide) ⟨by decide, by decide⟩ dX4_readLean_105 (fun h => absurd h (by decide)) (fun _ => ?_)
                  refine g_iconst (pc := 108) X (iI 0) (by rfl) dX4_readLean_108 ?_
                  refine g_ws (ws' := [cO_rri e0 4 t0 r0 y43, cO_riirrr t0 9 t_bytes ts tk t_kinds t_places t_values, cA Z t_kinds 0 401 Tk, cA Z t_values 0 401 Tv, cO_rirrrrrrirrr r0 6 w0 ro r_doors r_openingWalls r_froms r_tos r_lowers r_uppers rs r_standWalls r_standXs r_standYs, cO_rrrrrrii w0 10 w_begins w_lengths w_lefts w_rights w_leans w_leaning wn wr, cA Z w_leans 0 8 Wm, cA Z w_leaning 2 8 Wz]) [5, 6, 7, 4, 0, 2, 1, 3] (by decide) rfl ?_
                  exact g_zret (pc := 109) X hA (rfl) (⟨Wm, Wz, y43, 0, rfl, rfl, (hf90_b_to2), (by (first | (clear b_ts b_ro b_rs b_wr; omega) | omega)), (h_Wm), (h_Wz), (by (first | (clear b_ts b_ro b_rs b_wr; omega) | omega)), (by (first | (clear b_ts b_ro b_rs b_wr; omega) | omega))⟩) (by decide) (by decide) dX4_readLean_109
                · refine exN_1 hp1 fun y47 hz => anD_5 hz fun e_r e_w hf102_b_to2 hf102_f2 hf102_f3 => ?_; clear hz hp1; subst e_r; subst e_w
                  refine g_as (pc' := 105) (lv' := [(3, .int (iI y42)), (2, .int (iI 1)), (1, .int (iI y36)), (0, .ref e0)]) (st' := [.int (iI 1)]) (ws' := [cO_rirrrrrrirrr r0 6 w0 ro r_doors r_openingWalls r_froms r_tos r_lowers r_uppers rs r_standWalls r_standXs r_standYs, cA Z w_leans 0 8 Wm, cO_rrrrrrii w0 10 w_begins w_lengths w_lefts w_rights w_leans w_leaning wn wr, cA Z w_leaning 2 8 Wz, cA Z t_values 0 401 Tv, cO_rri e0 4 t0 r0 y47, cO_riirrr t0 9 t_bytes ts tk t_kinds t_places t_values, cA Z t_kinds 0 401 Tk]) rfl rfl rfl rfl ?_
                  refine g_if_neI (pc := 105) X 110 (by decide) ⟨by decide, by decide⟩ dX4_readLean_105 (fun _ => ?_) (fun h => absurd h (by decide))
                  refine g_aload_n (pc := 110) X 3 rfl dX4_readLean_110 ?_
                  refine g_get (pc := 111) X inlX4 5 rfl rfl 1 (by decide) mw_12_1 rfl dX4_readLean_111 ?_
                  refine g_get (pc := 114) X inlX6 0 rfl rfl 0 (by decide) mw_12_2 rfl dX4_readLean_114 ?_
                  refine g_iload_n (pc := 117) X 2 rfl dX4_readLean_117 ?_
                  refine g_iload_n (pc := 118) X 1 rfl dX4_readLean_118 ?_
                  refine g_iload_n (pc := 119) X 0 rfl dX4_readLean_119 ?_
                  refine g_imulI (pc := 120) X dX4_readLean_120 ?_
                  refine g_callV (pc := 121) X (k_X10_lean l Z w0 w_begins w_lengths w_lefts w_rights w_leans w_leaning Wm Wz y36 (1 * y42) wn wr (by (first | (clear b_ts b_ro b_rs b_wr; omega) | omega)) (by (first | (clear b_ts b_ro b_rs b_wr; omega) | omega)) b_wn b_wr (h_Wm) (h_Wz)) iM_X10_lean mw_18_20 mw_18_21 mw_18_22 2 rfl rfl [2, 1, 3] [0, 4, 5, 6, 7] rfl (wr := [cO_rirrrrrrirrr r0 6 w0 ro r_doors r_openingWalls r_froms r_tos r_lowers r_uppers rs r_standWalls r_standXs r_standYs, cA Z t_values 0 401 Tv, cO_rri e0 4 t0 r0 y47, cO_riirrr t0 9 t_bytes ts tk t_kinds t_places t_values, cA Z t_kinds 0 401 Tk]) rfl (by decide) rfl rfl (Nat.le_of_ble_eq_true rfl) (by decide) dX4_readLean_121 (fun r w' hpo => ?_)
                  refine exN_2 hpo fun F49 F50 hz => anD_4 hz fun e_r e_w hf121_h_Wm2 hf121_h_Wz2 => ?_; clear hz hpo; subst e_r; subst e_w
                  refine g_as (pc' := 124) (lv' := [(3, .int (iI y42)), (2, .int (iI 1)), (1, .int (iI y36)), (0, .ref e0)]) (st' := []) (ws' := [cO_rirrrrrrirrr r0 6 w0 ro r_doors r_openingWalls r_froms r_tos r_lowers r_uppers rs r_standWalls r_standXs r_standYs, cA Z t_values 0 401 Tv, cO_rri e0 4 t0 r0 y47, cO_riirrr t0 9 t_bytes ts tk t_kinds t_places t_values, cA Z t_kinds 0 401 Tk, cO_rrrrrrii w0 10 w_begins w_lengths w_lefts w_rights w_leans w_leaning wn wr, cA Z w_leans 0 8 F49, cA Z w_leaning 2 8 F50]) rfl rfl rfl rfl ?_
                  refine g_iconst (pc := 124) X (iI 1) (by rfl) dX4_readLean_124 ?_
                  refine g_ws (ws' := [cO_rri e0 4 t0 r0 y47, cO_riirrr t0 9 t_bytes ts tk t_kinds t_places t_values, cA Z t_kinds 0 401 Tk, cA Z t_values 0 401 Tv, cO_rirrrrrrirrr r0 6 w0 ro r_doors r_openingWalls r_froms r_tos r_lowers r_uppers rs r_standWalls r_standXs r_standYs, cO_rrrrrrii w0 10 w_begins w_lengths w_lefts w_rights w_leans w_leaning wn wr, cA Z w_leans 0 8 F49, cA Z w_leaning 2 8 F50]) [2, 3, 4, 1, 0, 5, 6, 7] (by decide) rfl ?_
                  exact g_zret (pc := 125) X hA (rfl) (⟨F49, F50, y47, 1, rfl, rfl, (hf102_b_to2), (by (first | (clear b_ts b_ro b_rs b_wr; omega) | omega)), (hf121_h_Wm2), (hf121_h_Wz2), (by (first | (clear b_ts b_ro b_rs b_wr; omega) | omega)), (by (first | (clear b_ts b_ro b_rs b_wr; omega) | omega))⟩) (by decide) (by decide) dX4_readLean_125
          · refine exN_1 hp1 fun y52 hz => anD_5 hz fun e_r e_w hf74_b_to2 hf74_f2 hf74_f3 => ?_; clear hz hp1; subst e_r; subst e_w
            refine g_as (pc' := 77) (lv' := [(1, .int (iI y36)), (0, .ref e0)]) (st' := [.int (iI 1)]) (ws' := [cO_rirrrrrrirrr r0 6 w0 ro r_doors r_openingWalls r_froms r_tos r_lowers r_uppers rs r_standWalls r_standXs r_standYs, cA Z w_leans 0 8 Wm, cO_rrrrrrii w0 10 w_begins w_lengths w_lefts w_rights w_leans w_leaning wn wr, cA Z w_leaning 2 8 Wz, cA Z t_values 0 401 Tv, cO_rri e0 4 t0 r0 y52, cO_riirrr t0 9 t_bytes ts tk t_kinds t_places t_values, cA Z t_kinds 0 401 Tk]) rfl rfl rfl rfl ?_
            refine g_if_eqI (pc := 77) X 84 (by decide) ⟨by decide, by decide⟩ dX4_readLean_77 (fun h => absurd h (by decide)) (fun _ => ?_)
            refine g_iconst (pc := 80) X (iI (-1)) (by rfl) dX4_readLean_80 ?_
            refine g_goto (pc := 81) X 85 (by decide) dX4_readLean_81 ?_
            refine g_istore_n (pc := 85) X (i := 2) rfl (by decide) (lv' := [(2, .int (iI (-1))), (1, .int (iI y36)), (0, .ref e0)]) rfl dX4_readLean_85 ?_
            refine g_aload_n (pc := 86) X 2 rfl dX4_readLean_86 ?_
            refine g_iconst (pc := 87) X (iI 0) (by rfl) dX4_readLean_87 ?_
            refine g_bipush (pc := 88) X (iI 50) (by decide) dX4_readLean_88 ?_
            refine g_callV (pc := 90) X (k_X4_readNumber l Z e0 t0 r0 t_bytes t_kinds t_places t_values Tk Tv 0 50 y52 ts tk (by decide) (by decide) hf74_b_to2 b_ts b_tk (h_Tk) (h_Tv)) iM_X4_readNumber mw_16_22 mw_16_23 mw_17_0 5 rfl rfl [5, 6, 7, 4] [0, 1, 2, 3] rfl (wr := [cO_rirrrrrrirrr r0 6 w0 ro r_doors r_openingWalls r_froms r_tos r_lowers r_uppers rs r_standWalls r_standXs r_standYs, cA Z w_leans 0 8 Wm, cO_rrrrrrii w0 10 w_begins w_lengths w_lefts w_rights w_leans w_leaning wn wr, cA Z w_leaning 2 8 Wz]) rfl (by decide) rfl rfl (Nat.le_of_ble_eq_true rfl) (by decide) dX4_readLean_90 (fun r w' hpo => ?_)
            rcases hpo with hp0 | hp1
            · obtain ⟨rfl, rfl⟩ := hp0
              refine g_as (pc' := 93) (lv' := [(2, .int (iI (-1))), (1, .int (iI y36)), (0, .ref e0)]) (st' := [.int (iI (-1))]) (ws' := [cO_rirrrrrrirrr r0 6 w0 ro r_doors r_openingWalls r_froms r_tos r_lowers r_uppers rs r_standWalls r_standXs r_standYs, cA Z w_leans 0 8 Wm, cO_rrrrrrii w0 10 w_begins w_lengths w_lefts w_rights w_leans w_leaning wn wr, cA Z w_leaning 2 8 Wz, cO_rri e0 4 t0 r0 y52, cO_riirrr t0 9 t_bytes ts tk t_kinds t_places t_values, cA Z t_kinds 0 401 Tk, cA Z t_values 0 401 Tv]) rfl rfl rfl rfl ?_
              refine g_istore_n (pc := 93) X (i := 3) rfl (by decide) (lv' := [(3, .int (iI (-1))), (2, .int (iI (-1))), (1, .int (iI y36)), (0, .ref e0)]) rfl dX4_readLean_93 ?_
              refine g_iload_n (pc := 94) X 0 rfl dX4_readLean_94 ?_
              refine g_iconst (pc := 95) X (iI (-1)) (by rfl) dX4_readLean_95 ?_
              refine g_icmp_eqI (pc := 96) X 108 (by decide) ⟨by decide, by decide⟩ ⟨by decide, by decide⟩ dX4_readLean_96 (fun _ => ?_) (fun h => absurd h (by decide))
              refine g_iconst (pc := 108) X (iI 0) (by rfl) dX4_readLean_108 ?_
              refine g_ws (ws' := [cO_rri e0 4 t0 r0 y52, cO_riirrr t0 9 t_bytes ts tk t_kinds t_places t_values, cA Z t_kinds 0 401 Tk, cA Z t_values 0 401 Tv, cO_rirrrrrrirrr r0 6 w0 ro r_doors r_openingWalls r_froms r_tos r_lowers r_uppers rs r_standWalls r_standXs r_standYs, cO_rrrrrrii w0 10 w_begins w_lengths w_lefts w_rights w_leans w_leaning wn wr, cA Z w_leans 0 8 Wm, cA Z w_leaning 2 8 Wz]) [4, 5, 6, 7, 0, 2, 1, 3] (by decide) rfl ?_
              exact g_zret (pc := 109) X hA (rfl) (⟨Wm, Wz, y52, 0, rfl, rfl, (hf74_b_to2), (by (first | (clear b_ts b_ro b_rs b_wr; omega) | omega)), (h_Wm), (h_Wz), (by (first | (clear b_ts b_ro b_rs b_wr; omega) | omega)), (by (first | (clear b_ts b_ro b_rs b_wr; omega) | omega))⟩) (by decide) (by decide) dX4_readLean_109
            · refine exN_2 hp1 fun y55 y56 hz => anD_7 hz fun e_r e_w hf90_b_y hf90_b_to2 hf90_f1 hf90_f2 hf90_f3 => ?_; clear hz hp1; subst e_r; subst e_w
              refine g_as (pc' := 93) (lv' := [(2, .int (iI (-1))), (1, .int (iI y36)), (0, .ref e0)]) (st' := [.int (iI y55)]) (ws' := [cO_rirrrrrrirrr r0 6 w0 ro r_doors r_openingWalls r_froms r_tos r_lowers r_uppers rs r_standWalls r_standXs r_standYs, cA Z w_leans 0 8 Wm, cO_rrrrrrii w0 10 w_begins w_lengths w_lefts w_rights w_leans w_leaning wn wr, cA Z w_leaning 2 8 Wz, cO_rri e0 4 t0 r0 y56, cO_riirrr t0 9 t_bytes ts tk t_kinds t_places t_values, cA Z t_kinds 0 401 Tk, cA Z t_values 0 401 Tv]) rfl rfl rfl rfl ?_
              have tt58 : 0 ≤ y55 ∧ y55 ≤ 50 := by (first | (clear b_ts b_ro b_rs b_wr; omega) | omega)
              refine g_istore_n (pc := 93) X (i := 3) rfl (by decide) (lv' := [(3, .int (iI y55)), (2, .int (iI (-1))), (1, .int (iI y36)), (0, .ref e0)]) rfl dX4_readLean_93 ?_
              refine g_iload_n (pc := 94) X 0 rfl dX4_readLean_94 ?_
              refine g_iconst (pc := 95) X (iI (-1)) (by rfl) dX4_readLean_95 ?_
              refine g_icmp_eqI (pc := 96) X 108 (by decide) (inRb hf90_b_y (by decide) (by decide)) ⟨by decide, by decide⟩ dX4_readLean_96 (fun c96 => ?_) (fun c96 => ?_)
              · refine g_iconst (pc := 108) X (iI 0) (by rfl) dX4_readLean_108 ?_
                refine g_ws (ws' := [cO_rri e0 4 t0 r0 y56, cO_riirrr t0 9 t_bytes ts tk t_kinds t_places t_values, cA Z t_kinds 0 401 Tk, cA Z t_values 0 401 Tv, cO_rirrrrrrirrr r0 6 w0 ro r_doors r_openingWalls r_froms r_tos r_lowers r_uppers rs r_standWalls r_standXs r_standYs, cO_rrrrrrii w0 10 w_begins w_lengths w_lefts w_rights w_leans w_leaning wn wr, cA Z w_leans 0 8 Wm, cA Z w_leaning 2 8 Wz]) [4, 5, 6, 7, 0, 2, 1, 3] (by decide) rfl ?_
                exact g_zret (pc := 109) X hA (rfl) (⟨Wm, Wz, y56, 0, rfl, rfl, (hf90_b_to2), (by (first | (clear b_ts b_ro b_rs b_wr; omega) | omega)), (h_Wm), (h_Wz), (by (first | (clear b_ts b_ro b_rs b_wr; omega) | omega)), (by (first | (clear b_ts b_ro b_rs b_wr; omega) | omega))⟩) (by decide) (by decide) dX4_readLean_109
              · refine g_aload_n (pc := 99) X 3 rfl dX4_readLean_99 ?_
                refine g_bipush (pc := 100) X (iI 8) (by decide) dX4_readLean_100 ?_
                refine g_callV (pc := 102) X (k_X4_readSign l Z e0 t0 r0 t_bytes t_kinds t_places t_values Tk 8 y56 ts tk (by decide) hf90_b_to2 b_ts b_tk (h_Tk)) iM_X4_readSign mw_17_3 mw_17_4 mw_17_5 4 rfl rfl [4, 5, 6] [0, 1, 2, 3, 7] rfl (wr := [cO_rirrrrrrirrr r0 6 w0 ro r_doors r_openingWalls r_froms r_tos r_lowers r_uppers rs r_standWalls r_standXs r_standYs, cA Z w_leans 0 8 Wm, cO_rrrrrrii w0 10 w_begins w_lengths w_lefts w_rights w_leans w_leaning wn wr, cA Z w_leaning 2 8 Wz, cA Z t_values 0 401 Tv]) rfl (by decide) rfl rfl (Nat.le_of_ble_eq_true rfl) (by decide) dX4_readLean_102 (fun r w' hpo => ?_)
                rcases hpo with hp0 | hp1
                · obtain ⟨rfl, rfl⟩ := hp0
                  refine g_as (pc' := 105) (lv' := [(3, .int (iI y55)), (2, .int (iI (-1))), (1, .int (iI y36)), (0, .ref e0)]) (st' := [.int (iI 0)]) (ws' := [cO_rirrrrrrirrr r0 6 w0 ro r_doors r_openingWalls r_froms r_tos r_lowers r_uppers rs r_standWalls r_standXs r_standYs, cA Z w_leans 0 8 Wm, cO_rrrrrrii w0 10 w_begins w_lengths w_lefts w_rights w_leans w_leaning wn wr, cA Z w_leaning 2 8 Wz, cA Z t_values 0 401 Tv, cO_rri e0 4 t0 r0 y56, cO_riirrr t0 9 t_bytes ts tk t_kinds t_places t_values, cA Z t_kinds 0 401 Tk]) rfl rfl rfl rfl ?_
                  refine g_if_neI (pc := 105) X 110 (by decide) ⟨by decide, by decide⟩ dX4_readLean_105 (fun h => absurd h (by decide)) (fun _ => ?_)
                  refine g_iconst (pc := 108) X (iI 0) (by rfl) dX4_readLean_108 ?_
                  refine g_ws (ws' := [cO_rri e0 4 t0 r0 y56, cO_riirrr t0 9 t_bytes ts tk t_kinds t_places t_values, cA Z t_kinds 0 401 Tk, cA Z t_values 0 401 Tv, cO_rirrrrrrirrr r0 6 w0 ro r_doors r_openingWalls r_froms r_tos r_lowers r_uppers rs r_standWalls r_standXs r_standYs, cO_rrrrrrii w0 10 w_begins w_lengths w_lefts w_rights w_leans w_leaning wn wr, cA Z w_leans 0 8 Wm, cA Z w_leaning 2 8 Wz]) [5, 6, 7, 4, 0, 2, 1, 3] (by decide) rfl ?_
                  exact g_zret (pc := 109) X hA (rfl) (⟨Wm, Wz, y56, 0, rfl, rfl, (hf90_b_to2), (by (first | (clear b_ts b_ro b_rs b_wr; omega) | omega)), (h_Wm), (h_Wz), (by (first | (clear b_ts b_ro b_rs b_wr; omega) | omega)), (by (first | (clear b_ts b_ro b_rs b_wr; omega) | omega))⟩) (by decide) (by decide) dX4_readLean_109
                · refine exN_1 hp1 fun y60 hz => anD_5 hz fun e_r e_w hf102_b_to2 hf102_f2 hf102_f3 => ?_; clear hz hp1; subst e_r; subst e_w
                  refine g_as (pc' := 105) (lv' := [(3, .int (iI y55)), (2, .int (iI (-1))), (1, .int (iI y36)), (0, .ref e0)]) (st' := [.int (iI 1)]) (ws' := [cO_rirrrrrrirrr r0 6 w0 ro r_doors r_openingWalls r_froms r_tos r_lowers r_uppers rs r_standWalls r_standXs r_standYs, cA Z w_leans 0 8 Wm, cO_rrrrrrii w0 10 w_begins w_lengths w_lefts w_rights w_leans w_leaning wn wr, cA Z w_leaning 2 8 Wz, cA Z t_values 0 401 Tv, cO_rri e0 4 t0 r0 y60, cO_riirrr t0 9 t_bytes ts tk t_kinds t_places t_values, cA Z t_kinds 0 401 Tk]) rfl rfl rfl rfl ?_
                  refine g_if_neI (pc := 105) X 110 (by decide) ⟨by decide, by decide⟩ dX4_readLean_105 (fun _ => ?_) (fun h => absurd h (by decide))
                  refine g_aload_n (pc := 110) X 3 rfl dX4_readLean_110 ?_
                  refine g_get (pc := 111) X inlX4 5 rfl rfl 1 (by decide) mw_12_1 rfl dX4_readLean_111 ?_
                  refine g_get (pc := 114) X inlX6 0 rfl rfl 0 (by decide) mw_12_2 rfl dX4_readLean_114 ?_
                  refine g_iload_n (pc := 117) X 2 rfl dX4_readLean_117 ?_
                  refine g_iload_n (pc := 118) X 1 rfl dX4_readLean_118 ?_
                  refine g_iload_n (pc := 119) X 0 rfl dX4_readLean_119 ?_
                  refine g_imulI (pc := 120) X dX4_readLean_120 ?_
                  refine g_callV (pc := 121) X (k_X10_lean l Z w0 w_begins w_lengths w_lefts w_rights w_leans w_leaning Wm Wz y36 ((-1) * y55) wn wr (by (first | (clear b_ts b_ro b_rs b_wr; omega) | omega)) (by (first | (clear b_ts b_ro b_rs b_wr; omega) | omega)) b_wn b_wr (h_Wm) (h_Wz)) iM_X10_lean mw_18_20 mw_18_21 mw_18_22 2 rfl rfl [2, 1, 3] [0, 4, 5, 6, 7] rfl (wr := [cO_rirrrrrrirrr r0 6 w0 ro r_doors r_openingWalls r_froms r_tos r_lowers r_uppers rs r_standWalls r_standXs r_standYs, cA Z t_values 0 401 Tv, cO_rri e0 4 t0 r0 y60, cO_riirrr t0 9 t_bytes ts tk t_kinds t_places t_values, cA Z t_kinds 0 401 Tk]) rfl (by decide) rfl rfl (Nat.le_of_ble_eq_true rfl) (by decide) dX4_readLean_121 (fun r w' hpo => ?_)
                  refine exN_2 hpo fun F62 F63 hz => anD_4 hz fun e_r e_w hf121_h_Wm2 hf121_h_Wz2 => ?_; clear hz hpo; subst e_r; subst e_w
                  refine g_as (pc' := 124) (lv' := [(3, .int (iI y55)), (2, .int (iI (-1))), (1, .int (iI y36)), (0, .ref e0)]) (st' := []) (ws' := [cO_rirrrrrrirrr r0 6 w0 ro r_doors r_openingWalls r_froms r_tos r_lowers r_uppers rs r_standWalls r_standXs r_standYs, cA Z t_values 0 401 Tv, cO_rri e0 4 t0 r0 y60, cO_riirrr t0 9 t_bytes ts tk t_kinds t_places t_values, cA Z t_kinds 0 401 Tk, cO_rrrrrrii w0 10 w_begins w_lengths w_lefts w_rights w_leans w_leaning wn wr, cA Z w_leans 0 8 F62, cA Z w_leaning 2 8 F63]) rfl rfl rfl rfl ?_
                  refine g_iconst (pc := 124) X (iI 1) (by rfl) dX4_readLean_124 ?_
                  refine g_ws (ws' := [cO_rri e0 4 t0 r0 y60, cO_riirrr t0 9 t_bytes ts tk t_kinds t_places t_values, cA Z t_kinds 0 401 Tk, cA Z t_values 0 401 Tv, cO_rirrrrrrirrr r0 6 w0 ro r_doors r_openingWalls r_froms r_tos r_lowers r_uppers rs r_standWalls r_standXs r_standYs, cO_rrrrrrii w0 10 w_begins w_lengths w_lefts w_rights w_leans w_leaning wn wr, cA Z w_leans 0 8 F62, cA Z w_leaning 2 8 F63]) [2, 3, 4, 1, 0, 5, 6, 7] (by decide) rfl ?_
                  exact g_zret (pc := 125) X hA (rfl) (⟨F62, F63, y60, 1, rfl, rfl, (hf102_b_to2), (by (first | (clear b_ts b_ro b_rs b_wr; omega) | omega)), (hf121_h_Wm2), (hf121_h_Wz2), (by (first | (clear b_ts b_ro b_rs b_wr; omega) | omega)), (by (first | (clear b_ts b_ro b_rs b_wr; omega) | omega))⟩) (by decide) (by decide) dX4_readLean_125
        · refine g_iconst (pc := 69) X (iI 0) (by rfl) dX4_readLean_69 ?_
          refine g_ws (ws' := [cO_rri e0 4 t0 r0 y37, cO_riirrr t0 9 t_bytes ts tk t_kinds t_places t_values, cA Z t_kinds 0 401 Tk, cA Z t_values 0 401 Tv, cO_rirrrrrrirrr r0 6 w0 ro r_doors r_openingWalls r_froms r_tos r_lowers r_uppers rs r_standWalls r_standXs r_standYs, cO_rrrrrrii w0 10 w_begins w_lengths w_lefts w_rights w_leans w_leaning wn wr, cA Z w_leans 0 8 Wm, cA Z w_leaning 2 8 Wz]) [4, 5, 6, 7, 0, 2, 1, 3] (by decide) rfl ?_
          exact g_zret (pc := 70) X hA (rfl) (⟨Wm, Wz, y37, 0, rfl, rfl, (hf60_b_to2), (by (first | (clear b_ts b_ro b_rs b_wr; omega) | omega)), (h_Wm), (h_Wz), (by (first | (clear b_ts b_ro b_rs b_wr; omega) | omega)), (by (first | (clear b_ts b_ro b_rs b_wr; omega) | omega))⟩) (by decide) (by decide) dX4_readLean_70
    · refine g_iconst (pc := 44) X (iI 0) (by rfl) dX4_readLean_44 ?_
      refine g_ws (ws' := [cO_rri e0 4 t0 r0 (to0 + 1), cO_riirrr t0 9 t_bytes ts tk t_kinds t_places t_values, cA Z t_kinds 0 401 Tk, cA Z t_values 0 401 Tv, cO_rirrrrrrirrr r0 6 w0 ro r_doors r_openingWalls r_froms r_tos r_lowers r_uppers rs r_standWalls r_standXs r_standYs, cO_rrrrrrii w0 10 w_begins w_lengths w_lefts w_rights w_leans w_leaning wn wr, cA Z w_leans 0 8 Wm, cA Z w_leaning 2 8 Wz]) [3, 4, 5, 0, 1, 6, 2, 7] (by decide) rfl ?_
      exact g_zret (pc := 45) X hA (rfl) (⟨Wm, Wz, (to0 + 1), 0, rfl, rfl, (by (first | (clear b_ts b_ro b_rs b_wr; omega) | omega)), (by (first | (clear b_ts b_ro b_rs b_wr; omega) | omega)), (h_Wm), (h_Wz), (by (first | (clear b_ts b_ro b_rs b_wr; omega) | omega)), (by (first | (clear b_ts b_ro b_rs b_wr; omega) | omega))⟩) (by decide) (by decide) dX4_readLean_45

set_option maxHeartbeats 4000000 in
set_option maxRecDepth 100000 in
theorem k_X4_readStand (l : Launch) (Z : gZ) (e0 : Nat) (t0 : Nat) (r0 : Nat) (t_bytes : Nat) (t_kinds : Nat) (t_places : Nat) (t_values : Nat) (w0 : Nat) (r_doors : Nat) (r_openingWalls : Nat) (r_froms : Nat) (r_tos : Nat) (r_lowers : Nat) (r_uppers : Nat) (r_standWalls : Nat) (r_standXs : Nat) (r_standYs : Nat) (w_begins : Nat) (w_lengths : Nat) (w_lefts : Nat) (w_rights : Nat) (w_leans : Nat) (w_leaning : Nat) (Tk : Nat → Int) (Tv : Nat → Int) (Wl : Nat → Int) (Rsw : Nat → Int) (Rsx : Nat → Int) (Rsy : Nat → Int) (to0 : Int) (ts : Int) (tk : Int) (ro : Int) (rs : Int) (wn : Int) (wr : Int) (b_to0 : 0 ≤ to0 ∧ to0 ≤ 401) (b_ts : 0 ≤ ts ∧ ts ≤ 400) (b_tk : 0 ≤ tk ∧ tk ≤ 401) (b_ro : 0 ≤ ro ∧ ro ≤ 8) (b_rs : 0 ≤ rs ∧ rs ≤ 4) (b_wn : 0 ≤ wn ∧ wn ≤ 8) (b_wr : 0 ≤ wr ∧ wr ≤ 4800) (hn : to0 < tk) (h_Tk : ∀ j, j < 401 → 0 ≤ Tk j ∧ Tk j ≤ 10) (h_Tv : ∀ j, j < 401 → 0 ≤ Tv j ∧ Tv j ≤ 100000) (h_Wl : ∀ j, j < 8 → 0 ≤ Wl j ∧ Wl j ≤ 600) (h_Rsw : ∀ j, j < 4 → 0 ≤ Rsw j ∧ Rsw j ≤ 7) (h_Rsx : ∀ j, j < 4 → 0 ≤ Rsx j ∧ Rsx j ≤ 600) (h_Rsy : ∀ j, j < 4 → 0 ≤ Rsy j ∧ Rsy j ≤ 400) : Con l Z yX4_readStand cX4_readStand 4 (some .boolean) 2 44 0 0 [.ref e0] [cO_rri e0 4 t0 r0 to0, cO_riirrr t0 9 t_bytes ts tk t_kinds t_places t_values, cA Z t_kinds 0 401 Tk, cA Z t_values 0 401 Tv, cO_rirrrrrrirrr r0 6 w0 ro r_doors r_openingWalls r_froms r_tos r_lowers r_uppers rs r_standWalls r_standXs r_standYs, cO_rrrrrrii w0 10 w_begins w_lengths w_lefts w_rights w_leans w_leaning wn wr, cA Z w_lengths 0 8 Wl, cA Z r_standWalls 0 4 Rsw, cA Z r_standXs 0 4 Rsx, cA Z r_standYs 0 4 Rsy] (fun r w' => ∃ (Rsw2 : Nat → Int) (Rsx2 : Nat → Int) (Rsy2 : Nat → Int) (to2 : Int) (rs2 : Int) (y : Int), (r = some (.int (iI y))) ∧ (w' = [cO_rri e0 4 t0 r0 to2, cO_riirrr t0 9 t_bytes ts tk t_kinds t_places t_values, cA Z t_kinds 0 401 Tk, cA Z t_values 0 401 Tv, cO_rirrrrrrirrr r0 6 w0 ro r_doors r_openingWalls r_froms r_tos r_lowers r_uppers rs2 r_standWalls r_standXs r_standYs, cO_rrrrrrii w0 10 w_begins w_lengths w_lefts w_rights w_leans w_leaning wn wr, cA Z w_lengths 0 8 Wl, cA Z r_standWalls 0 4 Rsw2, cA Z r_standXs 0 4 Rsx2, cA Z r_standYs 0 4 Rsy2]) ∧ (0 ≤ to2 ∧ to2 ≤ 401) ∧ (0 ≤ rs2 ∧ rs2 ≤ 4) ∧ (0 ≤ y ∧ y ≤ 1) ∧ (∀ j, j < 4 → 0 ≤ Rsw2 j ∧ Rsw2 j ≤ 7) ∧ (∀ j, j < 4 → 0 ≤ Rsx2 j ∧ Rsx2 j ≤ 600) ∧ (∀ j, j < 4 → 0 ≤ Rsy2 j ∧ Rsy2 j ≤ 400) ∧ (to2 ≤ tk) ∧ (to0 < to2)) := by
  refine enter (by decide) (Nat.le_of_ble_eq_true rfl) ?_
  intro p e s m args below meth c A X hnm hA
  have X : Cx p s m args meth c cX4_readStand 4 (some .boolean) RX4 Z A := X
  refine g_as (pc' := 0) (lv' := [(0, .ref e0)]) (st' := []) (ws' := [cO_rri e0 4 t0 r0 to0, cO_riirrr t0 9 t_bytes ts tk t_kinds t_places t_values, cA Z t_kinds 0 401 Tk, cA Z t_values 0 401 Tv, cO_rirrrrrrirrr r0 6 w0 ro r_doors r_openingWalls r_froms r_tos r_lowers r_uppers rs r_standWalls r_standXs r_standYs, cO_rrrrrrii w0 10 w_begins w_lengths w_lefts w_rights w_leans w_leaning wn wr, cA Z w_lengths 0 8 Wl, cA Z r_standWalls 0 4 Rsw, cA Z r_standXs 0 4 Rsx, cA Z r_standYs 0 4 Rsy]) rfl rfl rfl rfl ?_
  refine g_aload_n (pc := 0) X 0 rfl dX4_readStand_0 ?_
  refine g_dup (pc := 1) X rfl dX4_readStand_1 ?_
  refine g_get (pc := 2) X inlX4 0 rfl rfl 2 (by decide) mw_12_0 rfl dX4_readStand_2 ?_
  refine g_iconst (pc := 5) X (iI 1) (by rfl) dX4_readStand_5 ?_
  refine g_iaddI (pc := 6) X dX4_readStand_6 ?_
  refine g_put (pc := 7) X inlX4 tyX4_ok nmX4 0 rfl rfl 2 (by decide) mw_12_0 rfl rfl rfl (Nat.le_of_ble_eq_true rfl) (ws' := [cO_rri e0 4 t0 r0 (to0 + 1), cO_riirrr t0 9 t_bytes ts tk t_kinds t_places t_values, cA Z t_kinds 0 401 Tk, cA Z t_values 0 401 Tv, cO_rirrrrrrirrr r0 6 w0 ro r_doors r_openingWalls r_froms r_tos r_lowers r_uppers rs r_standWalls r_standXs r_standYs, cO_rrrrrrii w0 10 w_begins w_lengths w_lefts w_rights w_leans w_leaning wn wr, cA Z w_lengths 0 8 Wl, cA Z r_standWalls 0 4 Rsw, cA Z r_standXs 0 4 Rsx, cA Z r_standYs 0 4 Rsy]) rfl dX4_readStand_7 ?_
  refine g_aload_n (pc := 10) X 0 rfl dX4_readStand_10 ?_
  refine g_iconst (pc := 11) X (iI 0) (by rfl) dX4_readStand_11 ?_
  refine g_aload_n (pc := 12) X 0 rfl dX4_readStand_12 ?_
  refine g_get (pc := 13) X inlX4 0 rfl rfl 1 (by decide) mw_12_1 rfl dX4_readStand_13 ?_
  refine g_get (pc := 16) X inlX6 4 rfl rfl 0 (by decide) mw_12_2 rfl dX4_readStand_16 ?_
  refine g_get (pc := 19) X inlX10 5 rfl rfl 6 (by decide) mw_12_3 rfl dX4_readStand_19 ?_
  refine g_iconst (pc := 22) X (iI 1) (by rfl) dX4_readStand_22 ?_
  refine g_isubI (pc := 23) X dX4_readStand_23 ?_
  refine g_callV (pc := 24) X (k_X4_readNumber l Z e0 t0 r0 t_bytes t_kinds t_places t_values Tk Tv 0 (wn - 1) (to0 + 1) ts tk (by decide) (by (first | (clear b_ts b_ro b_rs b_wr; omega) | omega)) (by (first | (clear b_ts b_ro b_rs b_wr; omega) | omega)) b_ts b_tk (h_Tk) (h_Tv)) iM_X4_readNumber mw_16_22 mw_16_23 mw_17_0 0 rfl rfl [0, 1, 2, 3] [4, 5, 6, 7, 8, 9] rfl (wr := [cO_rirrrrrrirrr r0 6 w0 ro r_doors r_openingWalls r_froms r_tos r_lowers r_uppers rs r_standWalls r_standXs r_standYs, cO_rrrrrrii w0 10 w_begins w_lengths w_lefts w_rights w_leans w_leaning wn wr, cA Z w_lengths 0 8 Wl, cA Z r_standWalls 0 4 Rsw, cA Z r_standXs 0 4 Rsx, cA Z r_standYs 0 4 Rsy]) rfl (by decide) rfl rfl (Nat.le_of_ble_eq_true rfl) (by decide) dX4_readStand_24 (fun r w' hpo => ?_)
  rcases hpo with hp0 | hp1
  · obtain ⟨rfl, rfl⟩ := hp0
    refine g_as (pc' := 27) (lv' := [(0, .ref e0)]) (st' := [.int (iI (-1))]) (ws' := [cO_rirrrrrrirrr r0 6 w0 ro r_doors r_openingWalls r_froms r_tos r_lowers r_uppers rs r_standWalls r_standXs r_standYs, cO_rrrrrrii w0 10 w_begins w_lengths w_lefts w_rights w_leans w_leaning wn wr, cA Z w_lengths 0 8 Wl, cA Z r_standWalls 0 4 Rsw, cA Z r_standXs 0 4 Rsx, cA Z r_standYs 0 4 Rsy, cO_rri e0 4 t0 r0 (to0 + 1), cO_riirrr t0 9 t_bytes ts tk t_kinds t_places t_values, cA Z t_kinds 0 401 Tk, cA Z t_values 0 401 Tv]) rfl rfl rfl rfl ?_
    refine g_istore_n (pc := 27) X (i := 1) rfl (by decide) (lv' := [(1, .int (iI (-1))), (0, .ref e0)]) rfl dX4_readStand_27 ?_
    refine g_iload_n (pc := 28) X 0 rfl dX4_readStand_28 ?_
    refine g_iconst (pc := 29) X (iI (-1)) (by rfl) dX4_readStand_29 ?_
    refine g_icmp_neI (pc := 30) X 37 (by decide) ⟨by decide, by decide⟩ ⟨by decide, by decide⟩ dX4_readStand_30 (fun h => absurd h (by decide)) (fun _ => ?_)
    refine g_iconst (pc := 33) X (iI (-1)) (by rfl) dX4_readStand_33 ?_
    refine g_goto (pc := 34) X 53 (by decide) dX4_readStand_34 ?_
    refine g_istore_n (pc := 53) X (i := 2) rfl (by decide) (lv' := [(2, .int (iI (-1))), (1, .int (iI (-1))), (0, .ref e0)]) rfl dX4_readStand_53 ?_
    refine g_iload_n (pc := 54) X 0 rfl dX4_readStand_54 ?_
    refine g_iconst (pc := 55) X (iI (-1)) (by rfl) dX4_readStand_55 ?_
    refine g_icmp_neI (pc := 56) X 63 (by decide) ⟨by decide, by decide⟩ ⟨by decide, by decide⟩ dX4_readStand_56 (fun h => absurd h (by decide)) (fun _ => ?_)
    refine g_iconst (pc := 59) X (iI (-1)) (by rfl) dX4_readStand_59 ?_
    refine g_goto (pc := 60) X 71 (by decide) dX4_readStand_60 ?_
    refine g_istore_n (pc := 71) X (i := 3) rfl (by decide) (lv' := [(3, .int (iI (-1))), (2, .int (iI (-1))), (1, .int (iI (-1))), (0, .ref e0)]) rfl dX4_readStand_71 ?_
    refine g_iload_n (pc := 72) X 0 rfl dX4_readStand_72 ?_
    refine g_iconst (pc := 73) X (iI (-1)) (by rfl) dX4_readStand_73 ?_
    refine g_icmp_eqI (pc := 74) X 86 (by decide) ⟨by decide, by decide⟩ ⟨by decide, by decide⟩ dX4_readStand_74 (fun _ => ?_) (fun h => absurd h (by decide))
    refine g_iconst (pc := 86) X (iI 0) (by rfl) dX4_readStand_86 ?_
    refine g_ws (ws' := [cO_rri e0 4 t0 r0 (to0 + 1), cO_riirrr t0 9 t_bytes ts tk t_kinds t_places t_values, cA Z t_kinds 0 401 Tk, cA Z t_values 0 401 Tv, cO_rirrrrrrirrr r0 6 w0 ro r_doors r_openingWalls r_froms r_tos r_lowers r_uppers rs r_standWalls r_standXs r_standYs, cO_rrrrrrii w0 10 w_begins w_lengths w_lefts w_rights w_leans w_leaning wn wr, cA Z w_lengths 0 8 Wl, cA Z r_standWalls 0 4 Rsw, cA Z r_standXs 0 4 Rsx, cA Z r_standYs 0 4 Rsy]) [6, 7, 8, 9, 0, 1, 2, 3, 4, 5] (by decide) rfl ?_
    exact g_zret (pc := 87) X hA (rfl) (⟨Rsw, Rsx, Rsy, (to0 + 1), rs, 0, rfl, rfl, (by (first | (clear b_ts b_ro b_rs b_wr; omega) | omega)), (b_rs), (by (first | (clear b_ts b_ro b_rs b_wr; omega) | omega)), (h_Rsw), (h_Rsx), (h_Rsy), (by (first | (clear b_ts b_ro b_rs b_wr; omega) | omega)), (by (first | (clear b_ts b_ro b_rs b_wr; omega) | omega))⟩) (by decide) (by decide) dX4_readStand_87
  · refine exN_2 hp1 fun y2 y3 hz => anD_7 hz fun e_r e_w hf24_b_y hf24_b_to2 hf24_f1 hf24_f2 hf24_f3 => ?_; clear hz hp1; subst e_r; subst e_w
    refine g_as (pc' := 27) (lv' := [(0, .ref e0)]) (st' := [.int (iI y2)]) (ws' := [cO_rirrrrrrirrr r0 6 w0 ro r_doors r_openingWalls r_froms r_tos r_lowers r_uppers rs r_standWalls r_standXs r_standYs, cO_rrrrrrii w0 10 w_begins w_lengths w_lefts w_rights w_leans w_leaning wn wr, cA Z w_lengths 0 8 Wl, cA Z r_standWalls 0 4 Rsw, cA Z r_standXs 0 4 Rsx, cA Z r_standYs 0 4 Rsy, cO_rri e0 4 t0 r0 y3, cO_riirrr t0 9 t_bytes ts tk t_kinds t_places t_values, cA Z t_kinds 0 401 Tk, cA Z t_values 0 401 Tv]) rfl rfl rfl rfl ?_
    have tt5 : 0 ≤ y2 ∧ y2 ≤ 7 := by (first | (clear b_ts b_ro b_rs b_wr; omega) | omega)
    refine g_istore_n (pc := 27) X (i := 1) rfl (by decide) (lv' := [(1, .int (iI y2)), (0, .ref e0)]) rfl dX4_readStand_27 ?_
    refine g_iload_n (pc := 28) X 0 rfl dX4_readStand_28 ?_
    refine g_iconst (pc := 29) X (iI (-1)) (by rfl) dX4_readStand_29 ?_
    refine g_icmp_neI (pc := 30) X 37 (by decide) (inRb hf24_b_y (by decide) (by decide)) ⟨by decide, by decide⟩ dX4_readStand_30 (fun c30 => ?_) (fun c30 => ?_)
    · refine g_aload_n (pc := 37) X 1 rfl dX4_readStand_37 ?_
      refine g_iconst (pc := 38) X (iI 0) (by rfl) dX4_readStand_38 ?_
      refine g_aload_n (pc := 39) X 1 rfl dX4_readStand_39 ?_
      refine g_get (pc := 40) X inlX4 6 rfl rfl 1 (by decide) mw_12_1 rfl dX4_readStand_40 ?_
      refine g_get (pc := 43) X inlX6 0 rfl rfl 0 (by decide) mw_12_2 rfl dX4_readStand_43 ?_
      refine g_iload_n (pc := 46) X 0 rfl dX4_readStand_46 ?_
      refine g_callV (pc := 47) X (k_X10_lengthOf l Z w0 w_begins w_lengths w_lefts w_rights w_leans w_leaning Wl y2 wn wr (by (first | (clear b_ts b_ro b_rs b_wr; omega) | omega)) b_wn b_wr (h_Wl)) iM_X10_lengthOf mw_17_15 mw_17_16 mw_17_17 1 rfl rfl [1, 2] [0, 3, 4, 5, 6, 7, 8, 9] rfl (wr := [cO_rirrrrrrirrr r0 6 w0 ro r_doors r_openingWalls r_froms r_tos r_lowers r_uppers rs r_standWalls r_standXs r_standYs, cA Z r_standWalls 0 4 Rsw, cA Z r_standXs 0 4 Rsx, cA Z r_standYs 0 4 Rsy, cO_rri e0 4 t0 r0 y3, cO_riirrr t0 9 t_bytes ts tk t_kinds t_places t_values, cA Z t_kinds 0 401 Tk, cA Z t_values 0 401 Tv]) rfl (by decide) rfl rfl (Nat.le_of_ble_eq_true rfl) (by decide) dX4_readStand_47 (fun r w' hpo => ?_)
      refine exN_1 hpo fun y6 hz => anD_3 hz fun e_r e_w hf47_b_y => ?_; clear hz hpo; subst e_r; subst e_w
      refine g_as (pc' := 50) (lv' := [(1, .int (iI y2)), (0, .ref e0)]) (st' := [.int (iI y6), .int (iI 0), .ref e0]) (ws' := [cO_rirrrrrrirrr r0 6 w0 ro r_doors r_openingWalls r_froms r_tos r_lowers r_uppers rs r_standWalls r_standXs r_standYs, cA Z r_standWalls 0 4 Rsw, cA Z r_standXs 0 4 Rsx, cA Z r_standYs 0 4 Rsy, cO_rri e0 4 t0 r0 y3, cO_riirrr t0 9 t_bytes ts tk t_kinds t_places t_values, cA Z t_kinds 0 401 Tk, cA Z t_values 0 401 Tv, cO_rrrrrrii w0 10 w_begins w_lengths w_lefts w_rights w_leans w_leaning wn wr, cA Z w_lengths 0 8 Wl]) rfl rfl rfl rfl ?_
      refine g_callV (pc := 50) X (k_X4_readNumber l Z e0 t0 r0 t_bytes t_kinds t_places t_values Tk Tv 0 y6 y3 ts tk (by decide) (by (first | (clear b_ts b_ro b_rs b_wr; omega) | omega)) hf24_b_to2 b_ts b_tk (h_Tk) (h_Tv)) iM_X4_readNumber mw_16_22 mw_16_23 mw_17_0 4 rfl rfl [4, 5, 6, 7] [0, 1, 2, 3, 8, 9] rfl (wr := [cO_rirrrrrrirrr r0 6 w0 ro r_doors r_openingWalls r_froms r_tos r_lowers r_uppers rs r_standWalls r_standXs r_standYs, cA Z r_standWalls 0 4 Rsw, cA Z r_standXs 0 4 Rsx, cA Z r_standYs 0 4 Rsy, cO_rrrrrrii w0 10 w_begins w_lengths w_lefts w_rights w_leans w_leaning wn wr, cA Z w_lengths 0 8 Wl]) rfl (by decide) rfl rfl (Nat.le_of_ble_eq_true rfl) (by decide) dX4_readStand_50 (fun r w' hpo => ?_)
      rcases hpo with hp0 | hp1
      · obtain ⟨rfl, rfl⟩ := hp0
        refine g_as (pc' := 53) (lv' := [(1, .int (iI y2)), (0, .ref e0)]) (st' := [.int (iI (-1))]) (ws' := [cO_rirrrrrrirrr r0 6 w0 ro r_doors r_openingWalls r_froms r_tos r_lowers r_uppers rs r_standWalls r_standXs r_standYs, cA Z r_standWalls 0 4 Rsw, cA Z r_standXs 0 4 Rsx, cA Z r_standYs 0 4 Rsy, cO_rrrrrrii w0 10 w_begins w_lengths w_lefts w_rights w_leans w_leaning wn wr, cA Z w_lengths 0 8 Wl, cO_rri e0 4 t0 r0 y3, cO_riirrr t0 9 t_bytes ts tk t_kinds t_places t_values, cA Z t_kinds 0 401 Tk, cA Z t_values 0 401 Tv]) rfl rfl rfl rfl ?_
        refine g_istore_n (pc := 53) X (i := 2) rfl (by decide) (lv' := [(2, .int (iI (-1))), (1, .int (iI y2)), (0, .ref e0)]) rfl dX4_readStand_53 ?_
        refine g_iload_n (pc := 54) X 0 rfl dX4_readStand_54 ?_
        refine g_iconst (pc := 55) X (iI (-1)) (by rfl) dX4_readStand_55 ?_
        refine g_icmp_neI (pc := 56) X 63 (by decide) ⟨by decide, by decide⟩ ⟨by decide, by decide⟩ dX4_readStand_56 (fun h => absurd h (by decide)) (fun _ => ?_)
        refine g_iconst (pc := 59) X (iI (-1)) (by rfl) dX4_readStand_59 ?_
        refine g_goto (pc := 60) X 71 (by decide) dX4_readStand_60 ?_
        refine g_istore_n (pc := 71) X (i := 3) rfl (by decide) (lv' := [(3, .int (iI (-1))), (2, .int (iI (-1))), (1, .int (iI y2)), (0, .ref e0)]) rfl dX4_readStand_71 ?_
        refine g_iload_n (pc := 72) X 0 rfl dX4_readStand_72 ?_
        refine g_iconst (pc := 73) X (iI (-1)) (by rfl) dX4_readStand_73 ?_
        refine g_icmp_eqI (pc := 74) X 86 (by decide) ⟨by decide, by decide⟩ ⟨by decide, by decide⟩ dX4_readStand_74 (fun _ => ?_) (fun h => absurd h (by decide))
        refine g_iconst (pc := 86) X (iI 0) (by rfl) dX4_readStand_86 ?_
        refine g_ws (ws' := [cO_rri e0 4 t0 r0 y3, cO_riirrr t0 9 t_bytes ts tk t_kinds t_places t_values, cA Z t_kinds 0 401 Tk, cA Z t_values 0 401 Tv, cO_rirrrrrrirrr r0 6 w0 ro r_doors r_openingWalls r_froms r_tos r_lowers r_uppers rs r_standWalls r_standXs r_standYs, cO_rrrrrrii w0 10 w_begins w_lengths w_lefts w_rights w_leans w_leaning wn wr, cA Z w_lengths 0 8 Wl, cA Z r_standWalls 0 4 Rsw, cA Z r_standXs 0 4 Rsx, cA Z r_standYs 0 4 Rsy]) [6, 7, 8, 9, 0, 4, 5, 1, 2, 3] (by decide) rfl ?_
        exact g_zret (pc := 87) X hA (rfl) (⟨Rsw, Rsx, Rsy, y3, rs, 0, rfl, rfl, (hf24_b_to2), (b_rs), (by (first | (clear b_ts b_ro b_rs b_wr; omega) | omega)), (h_Rsw), (h_Rsx), (h_Rsy), (by (first | (clear b_ts b_ro b_rs b_wr; omega) | omega)), (by (first | (clear b_ts b_ro b_rs b_wr; omega) | omega))⟩) (by decide) (by decide) dX4_readStand_87
      · refine exN_2 hp1 fun y9 y10 hz => anD_7 hz fun e_r e_w hf50_b_y hf50_b_to2 hf50_f1 hf50_f2 hf50_f3 => ?_; clear hz hp1; subst e_r; subst e_w
        refine g_as (pc' := 53) (lv' := [(1, .int (iI y2)), (0, .ref e0)]) (st' := [.int (iI y9)]) (ws' := [cO_rirrrrrrirrr r0 6 w0 ro r_doors r_openingWalls r_froms r_tos r_lowers r_uppers rs r_standWalls r_standXs r_standYs, cA Z r_standWalls 0 4 Rsw, cA Z r_standXs 0 4 Rsx, cA Z r_standYs 0 4 Rsy, cO_rrrrrrii w0 10 w_begins w_lengths w_lefts w_rights w_leans w_leaning wn wr, cA Z w_lengths 0 8 Wl, cO_rri e0 4 t0 r0 y10, cO_riirrr t0 9 t_bytes ts tk t_kinds t_places t_values, cA Z t_kinds 0 401 Tk, cA Z t_values 0 401 Tv]) rfl rfl rfl rfl ?_
        have tt12 : 0 ≤ y9 ∧ y9 ≤ 600 := by (first | (clear b_ts b_ro b_rs b_wr; omega) | omega)
        refine g_istore_n (pc := 53) X (i := 2) rfl (by decide) (lv' := [(2, .int (iI y9)), (1, .int (iI y2)), (0, .ref e0)]) rfl dX4_readStand_53 ?_
        refine g_iload_n (pc := 54) X 0 rfl dX4_readStand_54 ?_
        refine g_iconst (pc := 55) X (iI (-1)) (by rfl) dX4_readStand_55 ?_
        refine g_icmp_neI (pc := 56) X 63 (by decide) (inRb hf50_b_y (by decide) (by decide)) ⟨by decide, by decide⟩ dX4_readStand_56 (fun c56 => ?_) (fun c56 => ?_)
        · refine g_aload_n (pc := 63) X 2 rfl dX4_readStand_63 ?_
          refine g_iconst (pc := 64) X (iI 0) (by rfl) dX4_readStand_64 ?_
          refine g_sipush (pc := 65) X (iI 400) (by decide) dX4_readStand_65 ?_
          refine g_callV (pc := 68) X (k_X4_readNumber l Z e0 t0 r0 t_bytes t_kinds t_places t_values Tk Tv 0 400 y10 ts tk (by decide) (by decide) hf50_b_to2 b_ts b_tk (h_Tk) (h_Tv)) iM_X4_readNumber mw_16_22 mw_16_23 mw_17_0 6 rfl rfl [6, 7, 8, 9] [0, 1, 2, 3, 4, 5] rfl (wr := [cO_rirrrrrrirrr r0 6 w0 ro r_doors r_openingWalls r_froms r_tos r_lowers r_uppers rs r_standWalls r_standXs r_standYs, cA Z r_standWalls 0 4 Rsw, cA Z r_standXs 0 4 Rsx, cA Z r_standYs 0 4 Rsy, cO_rrrrrrii w0 10 w_begins w_lengths w_lefts w_rights w_leans w_leaning wn wr, cA Z w_lengths 0 8 Wl]) rfl (by decide) rfl rfl (Nat.le_of_ble_eq_true rfl) (by decide) dX4_readStand_68 (fun r w' hpo => ?_)
          rcases hpo with hp0 | hp1
          · obtain ⟨rfl, rfl⟩ := hp0
            refine g_as (pc' := 71) (lv' := [(2, .int (iI y9)), (1, .int (iI y2)), (0, .ref e0)]) (st' := [.int (iI (-1))]) (ws' := [cO_rirrrrrrirrr r0 6 w0 ro r_doors r_openingWalls r_froms r_tos r_lowers r_uppers rs r_standWalls r_standXs r_standYs, cA Z r_standWalls 0 4 Rsw, cA Z r_standXs 0 4 Rsx, cA Z r_standYs 0 4 Rsy, cO_rrrrrrii w0 10 w_begins w_lengths w_lefts w_rights w_leans w_leaning wn wr, cA Z w_lengths 0 8 Wl, cO_rri e0 4 t0 r0 y10, cO_riirrr t0 9 t_bytes ts tk t_kinds t_places t_values, cA Z t_kinds 0 401 Tk, cA Z t_values 0 401 Tv]) rfl rfl rfl rfl ?_
            refine g_istore_n (pc := 71) X (i := 3) rfl (by decide) (lv' := [(3, .int (iI (-1))), (2, .int (iI y9)), (1, .int (iI y2)), (0, .ref e0)]) rfl dX4_readStand_71 ?_
            refine g_iload_n (pc := 72) X 0 rfl dX4_readStand_72 ?_
            refine g_iconst (pc := 73) X (iI (-1)) (by rfl) dX4_readStand_73 ?_
            refine g_icmp_eqI (pc := 74) X 86 (by decide) ⟨by decide, by decide⟩ ⟨by decide, by decide⟩ dX4_readStand_74 (fun _ => ?_) (fun h => absurd h (by decide))
            refine g_iconst (pc := 86) X (iI 0) (by rfl) dX4_readStand_86 ?_
            refine g_ws (ws' := [cO_rri e0 4 t0 r0 y10, cO_riirrr t0 9 t_bytes ts tk t_kinds t_places t_values, cA Z t_kinds 0 401 Tk, cA Z t_values 0 401 Tv, cO_rirrrrrrirrr r0 6 w0 ro r_doors r_openingWalls r_froms r_tos r_lowers r_uppers rs r_standWalls r_standXs r_standYs, cO_rrrrrrii w0 10 w_begins w_lengths w_lefts w_rights w_leans w_leaning wn wr, cA Z w_lengths 0 8 Wl, cA Z r_standWalls 0 4 Rsw, cA Z r_standXs 0 4 Rsx, cA Z r_standYs 0 4 Rsy]) [6, 7, 8, 9, 0, 4, 5, 1, 2, 3] (by decide) rfl ?_
            exact g_zret (pc := 87) X hA (rfl) (⟨Rsw, Rsx, Rsy, y10, rs, 0, rfl, rfl, (hf50_b_to2), (b_rs), (by (first | (clear b_ts b_ro b_rs b_wr; omega) | omega)), (h_Rsw), (h_Rsx), (h_Rsy), (by (first | (clear b_ts b_ro b_rs b_wr; omega) | omega)), (by (first | (clear b_ts b_ro b_rs b_wr; omega) | omega))⟩) (by decide) (by decide) dX4_readStand_87
          · refine exN_2 hp1 fun y14 y15 hz => anD_7 hz fun e_r e_w hf68_b_y hf68_b_to2 hf68_f1 hf68_f2 hf68_f3 => ?_; clear hz hp1; subst e_r; subst e_w
            refine g_as (pc' := 71) (lv' := [(2, .int (iI y9)), (1, .int (iI y2)), (0, .ref e0)]) (st' := [.int (iI y14)]) (ws' := [cO_rirrrrrrirrr r0 6 w0 ro r_doors r_openingWalls r_froms r_tos r_lowers r_uppers rs r_standWalls r_standXs r_standYs, cA Z r_standWalls 0 4 Rsw, cA Z r_standXs 0 4 Rsx, cA Z r_standYs 0 4 Rsy, cO_rrrrrrii w0 10 w_begins w_lengths w_lefts w_rights w_leans w_leaning wn wr, cA Z w_lengths 0 8 Wl, cO_rri e0 4 t0 r0 y15, cO_riirrr t0 9 t_bytes ts tk t_kinds t_places t_values, cA Z t_kinds 0 401 Tk, cA Z t_values 0 401 Tv]) rfl rfl rfl rfl ?_
            have tt17 : 0 ≤ y14 ∧ y14 ≤ 400 := by (first | (clear b_ts b_ro b_rs b_wr; omega) | omega)
            refine g_istore_n (pc := 71) X (i := 3) rfl (by decide) (lv' := [(3, .int (iI y14)), (2, .int (iI y9)), (1, .int (iI y2)), (0, .ref e0)]) rfl dX4_readStand_71 ?_
            refine g_iload_n (pc := 72) X 0 rfl dX4_readStand_72 ?_
            refine g_iconst (pc := 73) X (iI (-1)) (by rfl) dX4_readStand_73 ?_
            refine g_icmp_eqI (pc := 74) X 86 (by decide) (inRb hf68_b_y (by decide) (by decide)) ⟨by decide, by decide⟩ dX4_readStand_74 (fun c74 => ?_) (fun c74 => ?_)
            · refine g_iconst (pc := 86) X (iI 0) (by rfl) dX4_readStand_86 ?_
              refine g_ws (ws' := [cO_rri e0 4 t0 r0 y15, cO_riirrr t0 9 t_bytes ts tk t_kinds t_places t_values, cA Z t_kinds 0 401 Tk, cA Z t_values 0 401 Tv, cO_rirrrrrrirrr r0 6 w0 ro r_doors r_openingWalls r_froms r_tos r_lowers r_uppers rs r_standWalls r_standXs r_standYs, cO_rrrrrrii w0 10 w_begins w_lengths w_lefts w_rights w_leans w_leaning wn wr, cA Z w_lengths 0 8 Wl, cA Z r_standWalls 0 4 Rsw, cA Z r_standXs 0 4 Rsx, cA Z r_standYs 0 4 Rsy]) [6, 7, 8, 9, 0, 4, 5, 1, 2, 3] (by decide) rfl ?_
              exact g_zret (pc := 87) X hA (rfl) (⟨Rsw, Rsx, Rsy, y15, rs, 0, rfl, rfl, (hf68_b_to2), (b_rs), (by (first | (clear b_ts b_ro b_rs b_wr; omega) | omega)), (h_Rsw), (h_Rsx), (h_Rsy), (by (first | (clear b_ts b_ro b_rs b_wr; omega) | omega)), (by (first | (clear b_ts b_ro b_rs b_wr; omega) | omega))⟩) (by decide) (by decide) dX4_readStand_87
            · refine g_aload_n (pc := 77) X 3 rfl dX4_readStand_77 ?_
              refine g_bipush (pc := 78) X (iI 8) (by decide) dX4_readStand_78 ?_
              refine g_callV (pc := 80) X (k_X4_readSign l Z e0 t0 r0 t_bytes t_kinds t_places t_values Tk 8 y15 ts tk (by decide) hf68_b_to2 b_ts b_tk (h_Tk)) iM_X4_readSign mw_17_3 mw_17_4 mw_17_5 6 rfl rfl [6, 7, 8] [0, 1, 2, 3, 4, 5, 9] rfl (wr := [cO_rirrrrrrirrr r0 6 w0 ro r_doors r_openingWalls r_froms r_tos r_lowers r_uppers rs r_standWalls r_standXs r_standYs, cA Z r_standWalls 0 4 Rsw, cA Z r_standXs 0 4 Rsx, cA Z r_standYs 0 4 Rsy, cO_rrrrrrii w0 10 w_begins w_lengths w_lefts w_rights w_leans w_leaning wn wr, cA Z w_lengths 0 8 Wl, cA Z t_values 0 401 Tv]) rfl (by decide) rfl rfl (Nat.le_of_ble_eq_true rfl) (by decide) dX4_readStand_80 (fun r w' hpo => ?_)
              rcases hpo with hp0 | hp1
              · obtain ⟨rfl, rfl⟩ := hp0
                refine g_as (pc' := 83) (lv' := [(3, .int (iI y14)), (2, .int (iI y9)), (1, .int (iI y2)), (0, .ref e0)]) (st' := [.int (iI 0)]) (ws' := [cO_rirrrrrrirrr r0 6 w0 ro r_doors r_openingWalls r_froms r_tos r_lowers r_uppers rs r_standWalls r_standXs r_standYs, cA Z r_standWalls 0 4 Rsw, cA Z r_standXs 0 4 Rsx, cA Z r_standYs 0 4 Rsy, cO_rrrrrrii w0 10 w_begins w_lengths w_lefts w_rights w_leans w_leaning wn wr, cA Z w_lengths 0 8 Wl, cA Z t_values 0 401 Tv, cO_rri e0 4 t0 r0 y15, cO_riirrr t0 9 t_bytes ts tk t_kinds t_places t_values, cA Z t_kinds 0 401 Tk]) rfl rfl rfl rfl ?_
                refine g_if_neI (pc := 83) X 88 (by decide) ⟨by decide, by decide⟩ dX4_readStand_83 (fun h => absurd h (by decide)) (fun _ => ?_)
                refine g_iconst (pc := 86) X (iI 0) (by rfl) dX4_readStand_86 ?_
                refine g_ws (ws' := [cO_rri e0 4 t0 r0 y15, cO_riirrr t0 9 t_bytes ts tk t_kinds t_places t_values, cA Z t_kinds 0 401 Tk, cA Z t_values 0 401 Tv, cO_rirrrrrrirrr r0 6 w0 ro r_doors r_openingWalls r_froms r_tos r_lowers r_uppers rs r_standWalls r_standXs r_standYs, cO_rrrrrrii w0 10 w_begins w_lengths w_lefts w_rights w_leans w_leaning wn wr, cA Z w_lengths 0 8 Wl, cA Z r_standWalls 0 4 Rsw, cA Z r_standXs 0 4 Rsx, cA Z r_standYs 0 4 Rsy]) [7, 8, 9, 6, 0, 4, 5, 1, 2, 3] (by decide) rfl ?_
                exact g_zret (pc := 87) X hA (rfl) (⟨Rsw, Rsx, Rsy, y15, rs, 0, rfl, rfl, (hf68_b_to2), (b_rs), (by (first | (clear b_ts b_ro b_rs b_wr; omega) | omega)), (h_Rsw), (h_Rsx), (h_Rsy), (by (first | (clear b_ts b_ro b_rs b_wr; omega) | omega)), (by (first | (clear b_ts b_ro b_rs b_wr; omega) | omega))⟩) (by decide) (by decide) dX4_readStand_87
              · refine exN_1 hp1 fun y19 hz => anD_5 hz fun e_r e_w hf80_b_to2 hf80_f2 hf80_f3 => ?_; clear hz hp1; subst e_r; subst e_w
                refine g_as (pc' := 83) (lv' := [(3, .int (iI y14)), (2, .int (iI y9)), (1, .int (iI y2)), (0, .ref e0)]) (st' := [.int (iI 1)]) (ws' := [cO_rirrrrrrirrr r0 6 w0 ro r_doors r_openingWalls r_froms r_tos r_lowers r_uppers rs r_standWalls r_standXs r_standYs, cA Z r_standWalls 0 4 Rsw, cA Z r_standXs 0 4 Rsx, cA Z r_standYs 0 4 Rsy, cO_rrrrrrii w0 10 w_begins w_lengths w_lefts w_rights w_leans w_leaning wn wr, cA Z w_lengths 0 8 Wl, cA Z t_values 0 401 Tv, cO_rri e0 4 t0 r0 y19, cO_riirrr t0 9 t_bytes ts tk t_kinds t_places t_values, cA Z t_kinds 0 401 Tk]) rfl rfl rfl rfl ?_
                refine g_if_neI (pc := 83) X 88 (by decide) ⟨by decide, by decide⟩ dX4_readStand_83 (fun _ => ?_) (fun h => absurd h (by decide))
                refine g_aload_n (pc := 88) X 3 rfl dX4_readStand_88 ?_
                refine g_get (pc := 89) X inlX4 7 rfl rfl 1 (by decide) mw_12_1 rfl dX4_readStand_89 ?_
                refine g_iload_n (pc := 92) X 2 rfl dX4_readStand_92 ?_
                refine g_iload_n (pc := 93) X 1 rfl dX4_readStand_93 ?_
                refine g_iload_n (pc := 94) X 0 rfl dX4_readStand_94 ?_
                refine g_callV (pc := 95) X (k_X6_addStand l Z r0 w0 r_doors r_openingWalls r_froms r_tos r_lowers r_uppers r_standWalls r_standXs r_standYs Rsw Rsx Rsy y2 y9 y14 ro rs (by (first | (clear b_ts b_ro b_rs b_wr; omega) | omega)) (by (first | (clear b_ts b_ro b_rs b_wr; omega) | omega)) (by (first | (clear b_ts b_ro b_rs b_wr; omega) | omega)) b_ro b_rs (h_Rsw) (h_Rsx) (h_Rsy)) iM_X6_addStand mw_19_4 mw_19_5 mw_19_6 0 rfl rfl [0, 1, 2, 3] [4, 5, 6, 7, 8, 9] rfl (wr := [cO_rrrrrrii w0 10 w_begins w_lengths w_lefts w_rights w_leans w_leaning wn wr, cA Z w_lengths 0 8 Wl, cA Z t_values 0 401 Tv, cO_rri e0 4 t0 r0 y19, cO_riirrr t0 9 t_bytes ts tk t_kinds t_places t_values, cA Z t_kinds 0 401 Tk]) rfl (by decide) rfl rfl (Nat.le_of_ble_eq_true rfl) (by decide) dX4_readStand_95 (fun r w' hpo => ?_)
                refine exN_4 hpo fun F21 F22 F23 y24 hz => anD_6 hz fun e_r e_w hf95_b_rs2 hf95_h_Rsw2 hf95_h_Rsx2 hf95_h_Rsy2 => ?_; clear hz hpo; subst e_r; subst e_w
                refine g_as (pc' := 98) (lv' := [(3, .int (iI y14)), (2, .int (iI y9)), (1, .int (iI y2)), (0, .ref e0)]) (st' := []) (ws' := [cO_rrrrrrii w0 10 w_begins w_lengths w_lefts w_rights w_leans w_leaning wn wr, cA Z w_lengths 0 8 Wl, cA Z t_values 0 401 Tv, cO_rri e0 4 t0 r0 y19, cO_riirrr t0 9 t_bytes ts tk t_kinds t_places t_values, cA Z t_kinds 0 401 Tk, cO_rirrrrrrirrr r0 6 w0 ro r_doors r_openingWalls r_froms r_tos r_lowers r_uppers y24 r_standWalls r_standXs r_standYs, cA Z r_standWalls 0 4 F21, cA Z r_standXs 0 4 F22, cA Z r_standYs 0 4 F23]) rfl rfl rfl rfl ?_
                refine g_iconst (pc := 98) X (iI 1) (by rfl) dX4_readStand_98 ?_
                refine g_ws (ws' := [cO_rri e0 4 t0 r0 y19, cO_riirrr t0 9 t_bytes ts tk t_kinds t_places t_values, cA Z t_kinds 0 401 Tk, cA Z t_values 0 401 Tv, cO_rirrrrrrirrr r0 6 w0 ro r_doors r_openingWalls r_froms r_tos r_lowers r_uppers y24 r_standWalls r_standXs r_standYs, cO_rrrrrrii w0 10 w_begins w_lengths w_lefts w_rights w_leans w_leaning wn wr, cA Z w_lengths 0 8 Wl, cA Z r_standWalls 0 4 F21, cA Z r_standXs 0 4 F22, cA Z r_standYs 0 4 F23]) [3, 4, 5, 2, 6, 0, 1, 7, 8, 9] (by decide) rfl ?_
                exact g_zret (pc := 99) X hA (rfl) (⟨F21, F22, F23, y19, y24, 1, rfl, rfl, (hf80_b_to2), (hf95_b_rs2), (by (first | (clear b_ts b_ro b_rs b_wr; omega) | omega)), (hf95_h_Rsw2), (hf95_h_Rsx2), (hf95_h_Rsy2), (by (first | (clear b_ts b_ro b_rs b_wr; omega) | omega)), (by (first | (clear b_ts b_ro b_rs b_wr; omega) | omega))⟩) (by decide) (by decide) dX4_readStand_99
        · refine g_iconst (pc := 59) X (iI (-1)) (by rfl) dX4_readStand_59 ?_
          refine g_goto (pc := 60) X 71 (by decide) dX4_readStand_60 ?_
          refine g_istore_n (pc := 71) X (i := 3) rfl (by decide) (lv' := [(3, .int (iI (-1))), (2, .int (iI y9)), (1, .int (iI y2)), (0, .ref e0)]) rfl dX4_readStand_71 ?_
          refine g_iload_n (pc := 72) X 0 rfl dX4_readStand_72 ?_
          refine g_iconst (pc := 73) X (iI (-1)) (by rfl) dX4_readStand_73 ?_
          refine g_icmp_eqI (pc := 74) X 86 (by decide) ⟨by decide, by decide⟩ ⟨by decide, by decide⟩ dX4_readStand_74 (fun _ => ?_) (fun h => absurd h (by decide))
          refine g_iconst (pc := 86) X (iI 0) (by rfl) dX4_readStand_86 ?_
          refine g_ws (ws' := [cO_rri e0 4 t0 r0 y10, cO_riirrr t0 9 t_bytes ts tk t_kinds t_places t_values, cA Z t_kinds 0 401 Tk, cA Z t_values 0 401 Tv, cO_rirrrrrrirrr r0 6 w0 ro r_doors r_openingWalls r_froms r_tos r_lowers r_uppers rs r_standWalls r_standXs r_standYs, cO_rrrrrrii w0 10 w_begins w_lengths w_lefts w_rights w_leans w_leaning wn wr, cA Z w_lengths 0 8 Wl, cA Z r_standWalls 0 4 Rsw, cA Z r_standXs 0 4 Rsx, cA Z r_standYs 0 4 Rsy]) [6, 7, 8, 9, 0, 4, 5, 1, 2, 3] (by decide) rfl ?_
          exact g_zret (pc := 87) X hA (rfl) (⟨Rsw, Rsx, Rsy, y10, rs, 0, rfl, rfl, (hf50_b_to2), (b_rs), (by (first | (clear b_ts b_ro b_rs b_wr; omega) | omega)), (h_Rsw), (h_Rsx), (h_Rsy), (by (first | (clear b_ts b_ro b_rs b_wr; omega) | omega)), (by (first | (clear b_ts b_ro b_rs b_wr; omega) | omega))⟩) (by decide) (by decide) dX4_readStand_87
    · refine g_iconst (pc := 33) X (iI (-1)) (by rfl) dX4_readStand_33 ?_
      refine g_goto (pc := 34) X 53 (by decide) dX4_readStand_34 ?_
      refine g_istore_n (pc := 53) X (i := 2) rfl (by decide) (lv' := [(2, .int (iI (-1))), (1, .int (iI y2)), (0, .ref e0)]) rfl dX4_readStand_53 ?_
      refine g_iload_n (pc := 54) X 0 rfl dX4_readStand_54 ?_
      refine g_iconst (pc := 55) X (iI (-1)) (by rfl) dX4_readStand_55 ?_
      refine g_icmp_neI (pc := 56) X 63 (by decide) ⟨by decide, by decide⟩ ⟨by decide, by decide⟩ dX4_readStand_56 (fun h => absurd h (by decide)) (fun _ => ?_)
      refine g_iconst (pc := 59) X (iI (-1)) (by rfl) dX4_readStand_59 ?_
      refine g_goto (pc := 60) X 71 (by decide) dX4_readStand_60 ?_
      refine g_istore_n (pc := 71) X (i := 3) rfl (by decide) (lv' := [(3, .int (iI (-1))), (2, .int (iI (-1))), (1, .int (iI y2)), (0, .ref e0)]) rfl dX4_readStand_71 ?_
      refine g_iload_n (pc := 72) X 0 rfl dX4_readStand_72 ?_
      refine g_iconst (pc := 73) X (iI (-1)) (by rfl) dX4_readStand_73 ?_
      refine g_icmp_eqI (pc := 74) X 86 (by decide) ⟨by decide, by decide⟩ ⟨by decide, by decide⟩ dX4_readStand_74 (fun _ => ?_) (fun h => absurd h (by decide))
      refine g_iconst (pc := 86) X (iI 0) (by rfl) dX4_readStand_86 ?_
      refine g_ws (ws' := [cO_rri e0 4 t0 r0 y3, cO_riirrr t0 9 t_bytes ts tk t_kinds t_places t_values, cA Z t_kinds 0 401 Tk, cA Z t_values 0 401 Tv, cO_rirrrrrrirrr r0 6 w0 ro r_doors r_openingWalls r_froms r_tos r_lowers r_uppers rs r_standWalls r_standXs r_standYs, cO_rrrrrrii w0 10 w_begins w_lengths w_lefts w_rights w_leans w_leaning wn wr, cA Z w_lengths 0 8 Wl, cA Z r_standWalls 0 4 Rsw, cA Z r_standXs 0 4 Rsx, cA Z r_standYs 0 4 Rsy]) [6, 7, 8, 9, 0, 1, 2, 3, 4, 5] (by decide) rfl ?_
      exact g_zret (pc := 87) X hA (rfl) (⟨Rsw, Rsx, Rsy, y3, rs, 0, rfl, rfl, (hf24_b_to2), (b_rs), (by (first | (clear b_ts b_ro b_rs b_wr; omega) | omega)), (h_Rsw), (h_Rsx), (h_Rsy), (by (first | (clear b_ts b_ro b_rs b_wr; omega) | omega)), (by (first | (clear b_ts b_ro b_rs b_wr; omega) | omega))⟩) (by decide) (by decide) dX4_readStand_87
