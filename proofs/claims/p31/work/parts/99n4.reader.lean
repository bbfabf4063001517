set_option maxHeartbeats 4000000 in
set_option maxRecDepth 100000 in
theorem kx_X4_isNext (l : Launch) (Z : gZ) (e0 : Nat) (t0 : Nat) (r0 : Nat) (t_bytes : Nat) (t_kinds : Nat) (t_places : Nat) (t_values : Nat) (aK : Nat → Int) (Tk : Nat → Int) (kd : Int) (to0 : Int) (ts : Int) (tk : Int) (b_kd : (-2147483648) ≤ kd ∧ kd ≤ 2147483647) (b_to0 : 0 ≤ to0 ∧ to0 ≤ 401) (b_ts : 0 ≤ ts ∧ ts ≤ 400) (b_tk : 0 ≤ tk ∧ tk ≤ 401) (hK : ∀ j : Nat, (j : Int) < tk → Tk j = aK j) (hn : to0 < tk) (h_Tk : ∀ j, j < 401 → 0 ≤ Tk j ∧ Tk j ≤ 10) : Con l Z yX4_isNext cX4_isNext 2 (some .boolean) 0 0 0 0 [.ref e0, .int (iI kd)] [cO_rri e0 4 t0 r0 to0, cO_riirrr t0 9 t_bytes ts tk t_kinds t_places t_values, cA Z t_kinds 0 401 Tk] (fun r w' => (r = some (.int (iI (bI (aK to0.toNat = kd))))) ∧ (w' = [cO_rri e0 4 t0 r0 to0, cO_riirrr t0 9 t_bytes ts tk t_kinds t_places t_values, cA Z t_kinds 0 401 Tk])) := by
  refine enter (by decide) (Nat.le_of_ble_eq_true rfl) ?_
  intro p e s m args below meth c A X hnm hA
  have X : Cx p s m args meth c cX4_isNext 2 (some .boolean) RX4 Z A := X
  refine g_as (pc' := 0) (lv' := [(0, .ref e0), (1, .int (iI kd))]) (st' := []) (ws' := [cO_rri e0 4 t0 r0 to0, cO_riirrr t0 9 t_bytes ts tk t_kinds t_places t_values, cA Z t_kinds 0 401 Tk]) rfl rfl rfl rfl ?_
  have qk := hK to0.toNat (by omega)
  refine g_aload_n (pc := 0) X 0 rfl dX4_isNext_0 ?_
  refine g_get (pc := 1) X inlX4 0 rfl rfl 2 (by decide) mw_12_0 rfl dX4_isNext_1 ?_
  refine g_aload_n (pc := 4) X 0 rfl dX4_isNext_4 ?_
  refine g_get (pc := 5) X inlX4 0 rfl rfl 0 (by decide) mw_3_20 rfl dX4_isNext_5 ?_
  refine g_get (pc := 8) X inlX9 1 rfl rfl 2 (by decide) mw_16_10 rfl dX4_isNext_8 ?_
  refine g_icmp_geI (pc := 11) X 34 (by decide) (inRb b_to0 (by decide) (by decide)) (inRb b_tk (by decide) (by decide)) dX4_isNext_11 (fun c11 => ?_) (fun c11 => ?_)
  · refine g_iconst (pc := 34) X (iI 0) (by rfl) dX4_isNext_34 ?_
    exact g_zret (pc := 35) X hA (rfl) (⟨congrArg (fun z => some (Value.int (iI z))) ((bI_f (by omega)).symm), rfl⟩) (by decide) (by decide) dX4_isNext_35
  · refine g_aload_n (pc := 14) X 0 rfl dX4_isNext_14 ?_
    refine g_get (pc := 15) X inlX4 0 rfl rfl 0 (by decide) mw_3_20 rfl dX4_isNext_15 ?_
    refine g_get (pc := 18) X inlX9 1 rfl rfl 3 (by decide) mw_16_11 rfl dX4_isNext_18 ?_
    refine g_aload_n (pc := 21) X 0 rfl dX4_isNext_21 ?_
    refine g_get (pc := 22) X inlX4 0 rfl rfl 2 (by decide) mw_12_0 rfl dX4_isNext_22 ?_
    refine g_ialdI (pc := 25) X 2 rfl (b_to0.1) (by omega) (Int.le_trans b_to0.2 (by decide)) dX4_isNext_25 ?_
    refine g_nameI (fun y1 ey1 => ?_)
    have by1 : 0 ≤ y1 ∧ y1 ≤ 10 := by rw [ey1]; exact h_Tk _ (by omega)
    refine g_iload_n (pc := 26) X 1 rfl dX4_isNext_26 ?_
    refine g_icmp_neI (pc := 27) X 34 (by decide) (inRb by1 (by decide) (by decide)) b_kd dX4_isNext_27 (fun c27 => ?_) (fun c27 => ?_)
    · refine g_iconst (pc := 34) X (iI 0) (by rfl) dX4_isNext_34 ?_
      exact g_zret (pc := 35) X hA (rfl) (⟨congrArg (fun z => some (Value.int (iI z))) ((bI_f (by omega)).symm), rfl⟩) (by decide) (by decide) dX4_isNext_35
    · refine g_iconst (pc := 30) X (iI 1) (by rfl) dX4_isNext_30 ?_
      refine g_goto (pc := 31) X 35 (by decide) dX4_isNext_31 ?_
      exact g_zret (pc := 35) X hA (rfl) (⟨congrArg (fun z => some (Value.int (iI z))) ((bI_t (by omega)).symm), rfl⟩) (by decide) (by decide) dX4_isNext_35

set_option maxHeartbeats 4000000 in
set_option maxRecDepth 100000 in
theorem kx_X4_placeOfNext (l : Launch) (Z : gZ) (e0 : Nat) (t0 : Nat) (r0 : Nat) (t_bytes : Nat) (t_kinds : Nat) (t_places : Nat) (t_values : Nat) (aP : Nat → Int) (Tp : Nat → Int) (to0 : Int) (ts : Int) (tk : Int) (b_to0 : 0 ≤ to0 ∧ to0 ≤ 401) (b_ts : 0 ≤ ts ∧ ts ≤ 400) (b_tk : 0 ≤ tk ∧ tk ≤ 401) (hP : ∀ j : Nat, (j : Int) < tk → Tp j = aP j) (hn : to0 < tk) (h_Tp : ∀ j, j < 401 → 0 ≤ Tp j ∧ Tp j ≤ 400) : Con l Z yX4_placeOfNext cX4_placeOfNext 1 (some .int) 0 0 0 0 [.ref e0] [cO_rri e0 4 t0 r0 to0, cO_riirrr t0 9 t_bytes ts tk t_kinds t_places t_values, cA Z t_places 0 401 Tp] (fun r w' => ∃ (y : Int), (r = some (.int (iI y))) ∧ (w' = [cO_rri e0 4 t0 r0 to0, cO_riirrr t0 9 t_bytes ts tk t_kinds t_places t_values, cA Z t_places 0 401 Tp]) ∧ (0 ≤ y ∧ y ≤ 400) ∧ (y = aP to0.toNat)) := by
  refine enter (by decide) (Nat.le_of_ble_eq_true rfl) ?_
  intro p e s m args below meth c A X hnm hA
  have X : Cx p s m args meth c cX4_placeOfNext 1 (some .int) RX4 Z A := X
  refine g_as (pc' := 0) (lv' := [(0, .ref e0)]) (st' := []) (ws' := [cO_rri e0 4 t0 r0 to0, cO_riirrr t0 9 t_bytes ts tk t_kinds t_places t_values, cA Z t_places 0 401 Tp]) rfl rfl rfl rfl ?_
  have qp := hP to0.toNat (by omega)
  refine g_aload_n (pc := 0) X 0 rfl dX4_placeOfNext_0 ?_
  refine g_get (pc := 1) X inlX4 0 rfl rfl 2 (by decide) mw_12_0 rfl dX4_placeOfNext_1 ?_
  refine g_aload_n (pc := 4) X 0 rfl dX4_placeOfNext_4 ?_
  refine g_get (pc := 5) X inlX4 0 rfl rfl 0 (by decide) mw_3_20 rfl dX4_placeOfNext_5 ?_
  refine g_get (pc := 8) X inlX9 1 rfl rfl 2 (by decide) mw_16_10 rfl dX4_placeOfNext_8 ?_
  refine g_icmp_geI (pc := 11) X 29 (by decide) (inRb b_to0 (by decide) (by decide)) (inRb b_tk (by decide) (by decide)) dX4_placeOfNext_11 (fun c11 => ?_) (fun c11 => ?_)
  · refine g_aload_n (pc := 29) X 0 rfl dX4_placeOfNext_29 ?_
    refine g_get (pc := 30) X inlX4 0 rfl rfl 0 (by decide) mw_3_20 rfl dX4_placeOfNext_30 ?_
    refine g_get (pc := 33) X inlX9 1 rfl rfl 1 (by decide) mw_12_4 rfl dX4_placeOfNext_33 ?_
    exact g_iret (pc := 36) X hA (⟨ts, rfl, rfl, (b_ts), (by omega)⟩) (by decide) (by decide) dX4_placeOfNext_36
  · refine g_aload_n (pc := 14) X 0 rfl dX4_placeOfNext_14 ?_
    refine g_get (pc := 15) X inlX4 0 rfl rfl 0 (by decide) mw_3_20 rfl dX4_placeOfNext_15 ?_
    refine g_get (pc := 18) X inlX9 1 rfl rfl 4 (by decide) mw_19_12 rfl dX4_placeOfNext_18 ?_
    refine g_aload_n (pc := 21) X 0 rfl dX4_placeOfNext_21 ?_
    refine g_get (pc := 22) X inlX4 0 rfl rfl 2 (by decide) mw_12_0 rfl dX4_placeOfNext_22 ?_
    refine g_ialdI (pc := 25) X 2 rfl (b_to0.1) (by omega) (Int.le_trans b_to0.2 (by decide)) dX4_placeOfNext_25 ?_
    refine g_nameI (fun y1 ey1 => ?_)
    have by1 : 0 ≤ y1 ∧ y1 ≤ 400 := by rw [ey1]; exact h_Tp _ (by omega)
    refine g_goto (pc := 26) X 36 (by decide) dX4_placeOfNext_26 ?_
    exact g_iret (pc := 36) X hA (⟨y1, rfl, rfl, (by1), (by omega)⟩) (by decide) (by decide) dX4_placeOfNext_36

set_option maxHeartbeats 4000000 in
set_option maxRecDepth 100000 in
theorem kx_X4_readNumber (l : Launch) (Z : gZ) (e0 : Nat) (t0 : Nat) (r0 : Nat) (t_bytes : Nat) (t_kinds : Nat) (t_places : Nat) (t_values : Nat) (aK : Nat → Int) (aV : Nat → Int) (Tk : Nat → Int) (Tv : Nat → Int) (le : Int) (mo : Int) (to0 : Int) (ts : Int) (tk : Int) (b_le : (-2147483648) ≤ le ∧ le ≤ 2147483647) (b_mo : (-2147483648) ≤ mo ∧ mo ≤ 2147483647) (b_to0 : 0 ≤ to0 ∧ to0 ≤ 401) (b_ts : 0 ≤ ts ∧ ts ≤ 400) (b_tk : 0 ≤ tk ∧ tk ≤ 401) (hK : ∀ j : Nat, (j : Int) < tk → Tk j = aK j) (hV : ∀ j : Nat, (j : Int) < tk → Tv j = aV j) (hO : ∀ j : Nat, (j : Int) < tk → aK j ≠ 10 → (j : Int) + 1 < tk) (hn : to0 < tk) (h_Tk : ∀ j, j < 401 → 0 ≤ Tk j ∧ Tk j ≤ 10) (h_Tv : ∀ j, j < 401 → 0 ≤ Tv j ∧ Tv j ≤ 100000) : Con l Z yX4_readNumber cX4_readNumber 3 (some .int) 1 22 0 0 [.ref e0, .int (iI le), .int (iI mo)] [cO_rri e0 4 t0 r0 to0, cO_riirrr t0 9 t_bytes ts tk t_kinds t_places t_values, cA Z t_kinds 0 401 Tk, cA Z t_values 0 401 Tv] (fun r w' => ((r = some (.int (iI (-1)))) ∧ (w' = [cO_rri e0 4 t0 r0 to0, cO_riirrr t0 9 t_bytes ts tk t_kinds t_places t_values, cA Z t_kinds 0 401 Tk, cA Z t_values 0 401 Tv]) ∧ (¬ (aK to0.toNat = 6 ∧ le ≤ aV to0.toNat ∧ aV to0.toNat ≤ mo))) ∨ ((r = some (.int (iI (aV to0.toNat)))) ∧ (w' = [cO_rri e0 4 t0 r0 (to0 + 1), cO_riirrr t0 9 t_bytes ts tk t_kinds t_places t_values, cA Z t_kinds 0 401 Tk, cA Z t_values 0 401 Tv]) ∧ (aK to0.toNat = 6 ∧ le ≤ aV to0.toNat ∧ aV to0.toNat ≤ mo) ∧ (to0 + 1 < tk) ∧ (0 ≤ aV to0.toNat ∧ aV to0.toNat ≤ 100000))) := by
  refine enter (by decide) (Nat.le_of_ble_eq_true rfl) ?_
  intro p e s m args below meth c A X hnm hA
  have X : Cx p s m args meth c cX4_readNumber 3 (some .int) RX4 Z A := X
  refine g_as (pc' := 0) (lv' := [(0, .ref e0), (1, .int (iI le)), (2, .int (iI mo))]) (st' := []) (ws' := [cO_rri e0 4 t0 r0 to0, cO_riirrr t0 9 t_bytes ts tk t_kinds t_places t_values, cA Z t_kinds 0 401 Tk, cA Z t_values 0 401 Tv]) rfl rfl rfl rfl ?_
  have qk := hK to0.toNat (by omega)
  have qv := hV to0.toNat (by omega)
  have qo := hO to0.toNat (by omega)
  have qb := h_Tv to0.toNat (by omega)
  refine g_aload_n (pc := 0) X 0 rfl dX4_readNumber_0 ?_
  refine g_bipush (pc := 1) X (iI 6) (by decide) dX4_readNumber_1 ?_
  refine g_callV (pc := 3) X (kx_X4_isNext l Z e0 t0 r0 t_bytes t_kinds t_places t_values aK Tk 6 to0 ts tk (by decide) b_to0 b_ts b_tk (hK) (by omega) (h_Tk)) iM_X4_isNext mw_16_6 mw_16_7 mw_16_8 0 rfl rfl [0, 1, 2] [3] rfl (wr := [cA Z t_values 0 401 Tv]) rfl (by decide) rfl rfl (Nat.le_of_ble_eq_true rfl) (by decide) dX4_readNumber_3 (fun r w' hpo => ?_)
  obtain ⟨rfl, rfl⟩ := hpo
  refine g_as (pc' := 6) (lv' := [(0, .ref e0), (1, .int (iI le)), (2, .int (iI mo))]) (st' := [.int (iI (bI (aK to0.toNat = 6)))]) (ws' := [cA Z t_values 0 401 Tv, cO_rri e0 4 t0 r0 to0, cO_riirrr t0 9 t_bytes ts tk t_kinds t_places t_values, cA Z t_kinds 0 401 Tk]) rfl rfl rfl rfl ?_
  refine g_if_eqB (pc := 6) X 29 (by decide) dX4_readNumber_6 (fun c6 => ?_) (fun c6 => ?_)
  · refine g_iconst (pc := 29) X (iI (-1)) (by rfl) dX4_readNumber_29 ?_
    refine g_ws (ws' := [cO_rri e0 4 t0 r0 to0, cO_riirrr t0 9 t_bytes ts tk t_kinds t_places t_values, cA Z t_kinds 0 401 Tk, cA Z t_values 0 401 Tv]) [1, 2, 3, 0] (by decide) rfl ?_
    exact g_iret (pc := 30) X hA (Or.inl (⟨rfl, rfl, (by omega)⟩)) (by decide) (by decide) dX4_readNumber_30
  · refine g_iload_n (pc := 9) X 1 rfl dX4_readNumber_9 ?_
    refine g_aload_n (pc := 10) X 0 rfl dX4_readNumber_10 ?_
    refine g_get (pc := 11) X inlX4 1 rfl rfl 0 (by decide) mw_3_20 rfl dX4_readNumber_11 ?_
    refine g_get (pc := 14) X inlX9 2 rfl rfl 5 (by decide) mw_17_2 rfl dX4_readNumber_14 ?_
    refine g_aload_n (pc := 17) X 0 rfl dX4_readNumber_17 ?_
    refine g_get (pc := 18) X inlX4 1 rfl rfl 2 (by decide) mw_12_0 rfl dX4_readNumber_18 ?_
    refine g_ialdI (pc := 21) X 0 rfl (b_to0.1) (by omega) (Int.le_trans b_to0.2 (by decide)) dX4_readNumber_21 ?_
    refine g_nameI (fun y2 ey2 => ?_)
    have by2 : 0 ≤ y2 ∧ y2 ≤ 100000 := by rw [ey2]; exact h_Tv _ (by omega)
    refine g_iload_n (pc := 22) X 2 rfl dX4_readNumber_22 ?_
    refine g_callSN (pc := 23) X (k_X11_isFrom l Z le y2 mo b_le (by omega) b_mo) iM_X11_isFrom (by decide) mw_11_7 [] [0, 1, 2, 3] rfl (wr := [cA Z t_values 0 401 Tv, cO_rri e0 4 t0 r0 to0, cO_riirrr t0 9 t_bytes ts tk t_kinds t_places t_values, cA Z t_kinds 0 401 Tk]) rfl (by decide) rfl rfl (Nat.le_of_ble_eq_true rfl) (by decide) dX4_readNumber_23 (fun r w' hpo => ?_)
    obtain ⟨rfl, rfl⟩ := hpo
    refine g_as (pc' := 26) (lv' := [(0, .ref e0), (1, .int (iI le)), (2, .int (iI mo))]) (st' := [.int (iI (bI (le ≤ y2 ∧ y2 ≤ mo)))]) (ws' := [cA Z t_values 0 401 Tv, cO_rri e0 4 t0 r0 to0, cO_riirrr t0 9 t_bytes ts tk t_kinds t_places t_values, cA Z t_kinds 0 401 Tk]) rfl rfl rfl rfl ?_
    refine g_if_neB (pc := 26) X 31 (by decide) dX4_readNumber_26 (fun c26 => ?_) (fun c26 => ?_)
    · refine g_aload_n (pc := 31) X 0 rfl dX4_readNumber_31 ?_
      refine g_dup (pc := 32) X rfl dX4_readNumber_32 ?_
      refine g_get (pc := 33) X inlX4 1 rfl rfl 2 (by decide) mw_12_0 rfl dX4_readNumber_33 ?_
      refine g_iconst (pc := 36) X (iI 1) (by rfl) dX4_readNumber_36 ?_
      refine g_iaddI (pc := 37) X dX4_readNumber_37 ?_
      refine g_put (pc := 38) X inlX4 tyX4_ok nmX4 1 rfl rfl 2 (by decide) mw_12_0 rfl rfl rfl (Nat.le_of_ble_eq_true rfl) (ws' := [cA Z t_values 0 401 Tv, cO_rri e0 4 t0 r0 (to0 + 1), cO_riirrr t0 9 t_bytes ts tk t_kinds t_places t_values, cA Z t_kinds 0 401 Tk]) rfl dX4_readNumber_38 ?_
      refine g_aload_n (pc := 41) X 0 rfl dX4_readNumber_41 ?_
      refine g_get (pc := 42) X inlX4 1 rfl rfl 0 (by decide) mw_3_20 rfl dX4_readNumber_42 ?_
      refine g_get (pc := 45) X inlX9 2 rfl rfl 5 (by decide) mw_17_2 rfl dX4_readNumber_45 ?_
      refine g_aload_n (pc := 48) X 0 rfl dX4_readNumber_48 ?_
      refine g_get (pc := 49) X inlX4 1 rfl rfl 2 (by decide) mw_12_0 rfl dX4_readNumber_49 ?_
      refine g_iconst (pc := 52) X (iI 1) (by rfl) dX4_readNumber_52 ?_
      refine g_isubI (pc := 53) X dX4_readNumber_53 ?_
      refine g_ialdI (pc := 54) X 0 rfl (by omega) (by omega) (by omega) dX4_readNumber_54 ?_
      refine g_nameI (fun y4 ey4 => ?_)
      have by4 : 0 ≤ y4 ∧ y4 ≤ 100000 := by rw [ey4]; exact h_Tv _ (by omega)
      refine g_ws (ws' := [cO_rri e0 4 t0 r0 (to0 + 1), cO_riirrr t0 9 t_bytes ts tk t_kinds t_places t_values, cA Z t_kinds 0 401 Tk, cA Z t_values 0 401 Tv]) [1, 2, 3, 0] (by decide) rfl ?_
      exact g_iret (pc := 55) X hA (Or.inr (⟨congrArg (fun z => some (Value.int (iI z))) (by have q : (to0 + 1 - 1).toNat = to0.toNat := (by omega); rw [q] at ey4; omega), rfl, (by omega), (by omega), (by omega)⟩)) (by decide) (by decide) dX4_readNumber_55
    · refine g_iconst (pc := 29) X (iI (-1)) (by rfl) dX4_readNumber_29 ?_
      refine g_ws (ws' := [cO_rri e0 4 t0 r0 to0, cO_riirrr t0 9 t_bytes ts tk t_kinds t_places t_values, cA Z t_kinds 0 401 Tk, cA Z t_values 0 401 Tv]) [1, 2, 3, 0] (by decide) rfl ?_
      exact g_iret (pc := 30) X hA (Or.inl (⟨rfl, rfl, (by omega)⟩)) (by decide) (by decide) dX4_readNumber_30

set_option maxHeartbeats 4000000 in
set_option maxRecDepth 100000 in
theorem kx_X4_readSign (l : Launch) (Z : gZ) (e0 : Nat) (t0 : Nat) (r0 : Nat) (t_bytes : Nat) (t_kinds : Nat) (t_places : Nat) (t_values : Nat) (aK : Nat → Int) (aV : Nat → Int) (Tk : Nat → Int) (kd : Int) (to0 : Int) (ts : Int) (tk : Int) (b_kd : (-2147483648) ≤ kd ∧ kd ≤ 2147483647) (b_to0 : 0 ≤ to0 ∧ to0 ≤ 401) (b_ts : 0 ≤ ts ∧ ts ≤ 400) (b_tk : 0 ≤ tk ∧ tk ≤ 401) (hK : ∀ j : Nat, (j : Int) < tk → Tk j = aK j) (hO : ∀ j : Nat, (j : Int) < tk → aK j ≠ 10 → (j : Int) + 1 < tk) (hn : to0 < tk) (hkd : kd ≠ 10) (h_Tk : ∀ j, j < 401 → 0 ≤ Tk j ∧ Tk j ≤ 10) : Con l Z yX4_readSign cX4_readSign 2 (some .boolean) 1 21 0 0 [.ref e0, .int (iI kd)] [cO_rri e0 4 t0 r0 to0, cO_riirrr t0 9 t_bytes ts tk t_kinds t_places t_values, cA Z t_kinds 0 401 Tk] (fun r w' => ((r = some (.int (iI 0))) ∧ (w' = [cO_rri e0 4 t0 r0 to0, cO_riirrr t0 9 t_bytes ts tk t_kinds t_places t_values, cA Z t_kinds 0 401 Tk]) ∧ (¬ aK to0.toNat = kd)) ∨ ((r = some (.int (iI 1))) ∧ (w' = [cO_rri e0 4 t0 r0 (to0 + 1), cO_riirrr t0 9 t_bytes ts tk t_kinds t_places t_values, cA Z t_kinds 0 401 Tk]) ∧ (aK to0.toNat = kd) ∧ (to0 + 1 < tk))) := by
  refine enter (by decide) (Nat.le_of_ble_eq_true rfl) ?_
  intro p e s m args below meth c A X hnm hA
  have X : Cx p s m args meth c cX4_readSign 2 (some .boolean) RX4 Z A := X
  refine g_as (pc' := 0) (lv' := [(0, .ref e0), (1, .int (iI kd))]) (st' := []) (ws' := [cO_rri e0 4 t0 r0 to0, cO_riirrr t0 9 t_bytes ts tk t_kinds t_places t_values, cA Z t_kinds 0 401 Tk]) rfl rfl rfl rfl ?_
  have qk := hK to0.toNat (by omega)
  have qo := hO to0.toNat (by omega)
  refine g_aload_n (pc := 0) X 0 rfl dX4_readSign_0 ?_
  refine g_iload_n (pc := 1) X 1 rfl dX4_readSign_1 ?_
  refine g_callV (pc := 2) X (kx_X4_isNext l Z e0 t0 r0 t_bytes t_kinds t_places t_values aK Tk kd to0 ts tk b_kd b_to0 b_ts b_tk (hK) (by omega) (h_Tk)) iM_X4_isNext mw_16_6 mw_16_7 mw_16_8 0 rfl rfl [0, 1, 2] [] rfl (wr := []) rfl (by decide) rfl rfl (Nat.le_of_ble_eq_true rfl) (by decide) dX4_readSign_2 (fun r w' hpo => ?_)
  obtain ⟨rfl, rfl⟩ := hpo
  refine g_as (pc' := 5) (lv' := [(0, .ref e0), (1, .int (iI kd))]) (st' := [.int (iI (bI (aK to0.toNat = kd)))]) (ws' := [cO_rri e0 4 t0 r0 to0, cO_riirrr t0 9 t_bytes ts tk t_kinds t_places t_values, cA Z t_kinds 0 401 Tk]) rfl rfl rfl rfl ?_
  refine g_if_neB (pc := 5) X 10 (by decide) dX4_readSign_5 (fun c5 => ?_) (fun c5 => ?_)
  · refine g_aload_n (pc := 10) X 0 rfl dX4_readSign_10 ?_
    refine g_dup (pc := 11) X rfl dX4_readSign_11 ?_
    refine g_get (pc := 12) X inlX4 0 rfl rfl 2 (by decide) mw_12_0 rfl dX4_readSign_12 ?_
    refine g_iconst (pc := 15) X (iI 1) (by rfl) dX4_readSign_15 ?_
    refine g_iaddI (pc := 16) X dX4_readSign_16 ?_
    refine g_put (pc := 17) X inlX4 tyX4_ok nmX4 0 rfl rfl 2 (by decide) mw_12_0 rfl rfl rfl (Nat.le_of_ble_eq_true rfl) (ws' := [cO_rri e0 4 t0 r0 (to0 + 1), cO_riirrr t0 9 t_bytes ts tk t_kinds t_places t_values, cA Z t_kinds 0 401 Tk]) rfl dX4_readSign_17 ?_
    refine g_iconst (pc := 20) X (iI 1) (by rfl) dX4_readSign_20 ?_
    exact g_zret (pc := 21) X hA (rfl) (Or.inr (⟨rfl, rfl, (by omega), (by omega)⟩)) (by decide) (by decide) dX4_readSign_21
  · refine g_iconst (pc := 8) X (iI 0) (by rfl) dX4_readSign_8 ?_
    exact g_zret (pc := 9) X hA (rfl) (Or.inl (⟨rfl, rfl, (by omega)⟩)) (by decide) (by decide) dX4_readSign_9

set_option maxHeartbeats 4000000 in
set_option maxRecDepth 100000 in
theorem kx_X10_lengthOf (l : Launch) (Z : gZ) (w0 : Nat) (w_begins : Nat) (w_lengths : Nat) (w_lefts : Nat) (w_rights : Nat) (w_leans : Nat) (w_leaning : Nat) (Wl : Nat → Int) (w : Int) (wn : Int) (wr : Int) (b_w : (-2147483648) ≤ w ∧ w ≤ 2147483647) (b_wn : 0 ≤ wn ∧ wn ≤ 8) (b_wr : 0 ≤ wr ∧ wr ≤ 4800) (hw : 0 ≤ w ∧ w < wn) (h_Wl : ∀ j, j < 8 → 0 ≤ Wl j ∧ Wl j ≤ 600) : Con l Z yX10_lengthOf cX10_lengthOf 2 (some .int) 1 21 0 0 [.ref w0, .int (iI w)] [cO_rrrrrrii w0 10 w_begins w_lengths w_lefts w_rights w_leans w_leaning wn wr, cA Z w_lengths 0 8 Wl] (fun r w' => (r = some (.int (iI (Wl w.toNat)))) ∧ (w' = [cO_rrrrrrii w0 10 w_begins w_lengths w_lefts w_rights w_leans w_leaning wn wr, cA Z w_lengths 0 8 Wl]) ∧ (0 ≤ Wl w.toNat ∧ Wl w.toNat ≤ 600)) := by
  refine enter (by decide) (Nat.le_of_ble_eq_true rfl) ?_
  intro p e s m args below meth c A X hnm hA
  have X : Cx p s m args meth c cX10_lengthOf 2 (some .int) RX10 Z A := X
  refine g_as (pc' := 0) (lv' := [(0, .ref w0), (1, .int (iI w))]) (st' := []) (ws' := [cO_rrrrrrii w0 10 w_begins w_lengths w_lefts w_rights w_leans w_leaning wn wr, cA Z w_lengths 0 8 Wl]) rfl rfl rfl rfl ?_
  have qb := h_Wl w.toNat (by omega)
  refine g_aload_n (pc := 0) X 0 rfl dX10_lengthOf_0 ?_
  refine g_iload_n (pc := 1) X 1 rfl dX10_lengthOf_1 ?_
  refine g_callV (pc := 2) X (k_X10_has l Z w0 w_begins w_lengths w_lefts w_rights w_leans w_leaning w wn wr b_w b_wn b_wr) iM_X10_has mw_17_19 mw_17_20 mw_17_21 0 rfl rfl [0] [1] rfl (wr := [cA Z w_lengths 0 8 Wl]) rfl (by decide) rfl rfl (Nat.le_of_ble_eq_true rfl) (by decide) dX10_lengthOf_2 (fun r w' hpo => ?_)
  obtain ⟨rfl, rfl⟩ := hpo
  refine g_as (pc' := 5) (lv' := [(0, .ref w0), (1, .int (iI w))]) (st' := [.int (iI (bI (0 ≤ w ∧ w < wn)))]) (ws' := [cA Z w_lengths 0 8 Wl, cO_rrrrrrii w0 10 w_begins w_lengths w_lefts w_rights w_leans w_leaning wn wr]) rfl rfl rfl rfl ?_
  refine g_if_eqB (pc := 5) X 17 (by decide) dX10_lengthOf_5 (fun c5 => ?_) (fun c5 => ?_)
  · refine g_iconst (pc := 17) X (iI 0) (by rfl) dX10_lengthOf_17 ?_
    refine g_ws (ws' := [cO_rrrrrrii w0 10 w_begins w_lengths w_lefts w_rights w_leans w_leaning wn wr, cA Z w_lengths 0 8 Wl]) [1, 0] (by decide) rfl ?_
    exact g_iret (pc := 18) X hA (⟨congrArg (fun z => some (Value.int (iI z))) (by omega), rfl, (by omega)⟩) (by decide) (by decide) dX10_lengthOf_18
  · refine g_aload_n (pc := 8) X 0 rfl dX10_lengthOf_8 ?_
    refine g_get (pc := 9) X inlX10 1 rfl rfl 1 (by decide) mw_7_2 rfl dX10_lengthOf_9 ?_
    refine g_iload_n (pc := 12) X 1 rfl dX10_lengthOf_12 ?_
    refine g_ialdI (pc := 13) X 0 rfl (by omega) (by omega) (Int.le_trans b_w.2 (by decide)) dX10_lengthOf_13 ?_
    refine g_nameI (fun y2 ey2 => ?_)
    have by2 : 0 ≤ y2 ∧ y2 ≤ 600 := by rw [ey2]; exact h_Wl _ (by omega)
    refine g_goto (pc := 14) X 18 (by decide) dX10_lengthOf_14 ?_
    refine g_ws (ws' := [cO_rrrrrrii w0 10 w_begins w_lengths w_lefts w_rights w_leans w_leaning wn wr, cA Z w_lengths 0 8 Wl]) [1, 0] (by decide) rfl ?_
    exact g_iret (pc := 18) X hA (⟨congrArg (fun z => some (Value.int (iI z))) (by omega), rfl, (by omega)⟩) (by decide) (by decide) dX10_lengthOf_18

set_option maxHeartbeats 4000000 in
set_option maxRecDepth 100000 in
theorem kx_X10_lesserHeightOf (l : Launch) (Z : gZ) (w0 : Nat) (w_begins : Nat) (w_lengths : Nat) (w_lefts : Nat) (w_rights : Nat) (w_leans : Nat) (w_leaning : Nat) (Wh : Nat → Int) (Wk : Nat → Int) (w : Int) (wn : Int) (wr : Int) (b_w : (-2147483648) ≤ w ∧ w ≤ 2147483647) (b_wn : 0 ≤ wn ∧ wn ≤ 8) (b_wr : 0 ≤ wr ∧ wr ≤ 4800) (hw : 0 ≤ w ∧ w < wn) (h_Wh : ∀ j, j < 8 → 0 ≤ Wh j ∧ Wh j ≤ 400) (h_Wk : ∀ j, j < 8 → 0 ≤ Wk j ∧ Wk j ≤ 400) : Con l Z yX10_lesserHeightOf cX10_lesserHeightOf 2 (some .int) 1 24 0 0 [.ref w0, .int (iI w)] [cO_rrrrrrii w0 10 w_begins w_lengths w_lefts w_rights w_leans w_leaning wn wr, cA Z w_lefts 0 8 Wh, cA Z w_rights 0 8 Wk] (fun r w' => (r = some (.int (iI (les Wh Wk w)))) ∧ (w' = [cO_rrrrrrii w0 10 w_begins w_lengths w_lefts w_rights w_leans w_leaning wn wr, cA Z w_lefts 0 8 Wh, cA Z w_rights 0 8 Wk]) ∧ (0 ≤ les Wh Wk w ∧ les Wh Wk w ≤ 400)) := by
  refine enter (by decide) (Nat.le_of_ble_eq_true rfl) ?_
  intro p e s m args below meth c A X hnm hA
  have X : Cx p s m args meth c cX10_lesserHeightOf 2 (some .int) RX10 Z A := X
  refine g_as (pc' := 0) (lv' := [(0, .ref w0), (1, .int (iI w))]) (st' := []) (ws' := [cO_rrrrrrii w0 10 w_begins w_lengths w_lefts w_rights w_leans w_leaning wn wr, cA Z w_lefts 0 8 Wh, cA Z w_rights 0 8 Wk]) rfl rfl rfl rfl ?_
  refine g_aload_n (pc := 0) X 0 rfl dX10_lesserHeightOf_0 ?_
  refine g_iload_n (pc := 1) X 1 rfl dX10_lesserHeightOf_1 ?_
  refine g_callV (pc := 2) X (k_X10_has l Z w0 w_begins w_lengths w_lefts w_rights w_leans w_leaning w wn wr b_w b_wn b_wr) iM_X10_has mw_17_19 mw_17_20 mw_17_21 0 rfl rfl [0] [1, 2] rfl (wr := [cA Z w_lefts 0 8 Wh, cA Z w_rights 0 8 Wk]) rfl (by decide) rfl rfl (Nat.le_of_ble_eq_true rfl) (by decide) dX10_lesserHeightOf_2 (fun r w' hpo => ?_)
  obtain ⟨rfl, rfl⟩ := hpo
  refine g_as (pc' := 5) (lv' := [(0, .ref w0), (1, .int (iI w))]) (st' := [.int (iI (bI (0 ≤ w ∧ w < wn)))]) (ws' := [cA Z w_lefts 0 8 Wh, cA Z w_rights 0 8 Wk, cO_rrrrrrii w0 10 w_begins w_lengths w_lefts w_rights w_leans w_leaning wn wr]) rfl rfl rfl rfl ?_
  refine g_if_eqB (pc := 5) X 26 (by decide) dX10_lesserHeightOf_5 (fun c5 => ?_) (fun c5 => ?_)
  · refine g_iconst (pc := 26) X (iI 0) (by rfl) dX10_lesserHeightOf_26 ?_
    refine g_ws (ws' := [cO_rrrrrrii w0 10 w_begins w_lengths w_lefts w_rights w_leans w_leaning wn wr, cA Z w_lefts 0 8 Wh, cA Z w_rights 0 8 Wk]) [2, 0, 1] (by decide) rfl ?_
    exact g_iret (pc := 27) X hA (⟨congrArg (fun z => some (Value.int (iI z))) (les_of (by omega)), rfl, (les_B (h_Wh _ (by omega)) (h_Wk _ (by omega)))⟩) (by decide) (by decide) dX10_lesserHeightOf_27
  · refine g_aload_n (pc := 8) X 0 rfl dX10_lesserHeightOf_8 ?_
    refine g_get (pc := 9) X inlX10 2 rfl rfl 2 (by decide) mw_7_3 rfl dX10_lesserHeightOf_9 ?_
    refine g_iload_n (pc := 12) X 1 rfl dX10_lesserHeightOf_12 ?_
    refine g_ialdI (pc := 13) X 0 rfl (by omega) (by omega) (Int.le_trans b_w.2 (by decide)) dX10_lesserHeightOf_13 ?_
    refine g_nameI (fun y2 ey2 => ?_)
    have by2 : 0 ≤ y2 ∧ y2 ≤ 400 := by rw [ey2]; exact h_Wh _ (by omega)
    refine g_aload_n (pc := 14) X 0 rfl dX10_lesserHeightOf_14 ?_
    refine g_get (pc := 15) X inlX10 2 rfl rfl 3 (by decide) mw_7_4 rfl dX10_lesserHeightOf_15 ?_
    refine g_iload_n (pc := 18) X 1 rfl dX10_lesserHeightOf_18 ?_
    refine g_ialdI (pc := 19) X 1 rfl (by omega) (by omega) (Int.le_trans b_w.2 (by decide)) dX10_lesserHeightOf_19 ?_
    refine g_nameI (fun y3 ey3 => ?_)
    have by3 : 0 ≤ y3 ∧ y3 ≤ 400 := by rw [ey3]; exact h_Wk _ (by omega)
    refine g_minI (pc := 20) X mw_18_3 mw_15_13 mw_25_23 mw_15_14 (by decide) (Nat.le_of_ble_eq_true rfl) (by decide) (by decide) (inRb by2 (by decide) (by decide)) (inRb by3 (by decide) (by decide)) dX10_lesserHeightOf_20 ?_
    refine g_nameI (fun y4 ey4 => ?_)
    have my4 : y4 ≤ y2 ∧ y4 ≤ y3 ∧ (y4 = y2 ∨ y4 = y3) := by rw [ey4]; exact minF _ _
    clear ey4
    refine g_goto (pc := 23) X 27 (by decide) dX10_lesserHeightOf_23 ?_
    refine g_ws (ws' := [cO_rrrrrrii w0 10 w_begins w_lengths w_lefts w_rights w_leans w_leaning wn wr, cA Z w_lefts 0 8 Wh, cA Z w_rights 0 8 Wk]) [2, 0, 1] (by decide) rfl ?_
    exact g_iret (pc := 27) X hA (⟨congrArg (fun z => some (Value.int (iI z))) (les_of (by omega)), rfl, (les_B (h_Wh _ (by omega)) (h_Wk _ (by omega)))⟩) (by decide) (by decide) dX10_lesserHeightOf_27

set_option maxHeartbeats 4000000 in
set_option maxRecDepth 100000 in
theorem kx_X10_leansAt (l : Launch) (Z : gZ) (w0 : Nat) (w_begins : Nat) (w_lengths : Nat) (w_lefts : Nat) (w_rights : Nat) (w_leans : Nat) (w_leaning : Nat) (Wz : Nat → Int) (w : Int) (wn : Int) (wr : Int) (b_w : (-2147483648) ≤ w ∧ w ≤ 2147483647) (b_wn : 0 ≤ wn ∧ wn ≤ 8) (b_wr : 0 ≤ wr ∧ wr ≤ 4800) (h_Wz : ∀ j, j < 8 → 0 ≤ Wz j ∧ Wz j ≤ 1) : Con l Z yX10_leansAt cX10_leansAt 2 (some .boolean) 1 21 0 0 [.ref w0, .int (iI w)] [cO_rrrrrrii w0 10 w_begins w_lengths w_lefts w_rights w_leans w_leaning wn wr, cA Z w_leaning 2 8 Wz] (fun r w' => (r = some (.int (iI (bI (0 ≤ w ∧ w < wn ∧ Wz w.toNat = 1))))) ∧ (w' = [cO_rrrrrrii w0 10 w_begins w_lengths w_lefts w_rights w_leans w_leaning wn wr, cA Z w_leaning 2 8 Wz])) := by
  refine enter (by decide) (Nat.le_of_ble_eq_true rfl) ?_
  intro p e s m args below meth c A X hnm hA
  have X : Cx p s m args meth c cX10_leansAt 2 (some .boolean) RX10 Z A := X
  refine g_as (pc' := 0) (lv' := [(0, .ref w0), (1, .int (iI w))]) (st' := []) (ws' := [cO_rrrrrrii w0 10 w_begins w_lengths w_lefts w_rights w_leans w_leaning wn wr, cA Z w_leaning 2 8 Wz]) rfl rfl rfl rfl ?_
  refine g_aload_n (pc := 0) X 0 rfl dX10_leansAt_0 ?_
  refine g_iload_n (pc := 1) X 1 rfl dX10_leansAt_1 ?_
  refine g_callV (pc := 2) X (k_X10_has l Z w0 w_begins w_lengths w_lefts w_rights w_leans w_leaning w wn wr b_w b_wn b_wr) iM_X10_has mw_17_19 mw_17_20 mw_17_21 0 rfl rfl [0] [1] rfl (wr := [cA Z w_leaning 2 8 Wz]) rfl (by decide) rfl rfl (Nat.le_of_ble_eq_true rfl) (by decide) dX10_leansAt_2 (fun r w' hpo => ?_)
  obtain ⟨rfl, rfl⟩ := hpo
  refine g_as (pc' := 5) (lv' := [(0, .ref w0), (1, .int (iI w))]) (st' := [.int (iI (bI (0 ≤ w ∧ w < wn)))]) (ws' := [cA Z w_leaning 2 8 Wz, cO_rrrrrrii w0 10 w_begins w_lengths w_lefts w_rights w_leans w_leaning wn wr]) rfl rfl rfl rfl ?_
  refine g_if_eqB (pc := 5) X 21 (by decide) dX10_leansAt_5 (fun c5 => ?_) (fun c5 => ?_)
  · refine g_iconst (pc := 21) X (iI 0) (by rfl) dX10_leansAt_21 ?_
    refine g_ws (ws' := [cO_rrrrrrii w0 10 w_begins w_lengths w_lefts w_rights w_leans w_leaning wn wr, cA Z w_leaning 2 8 Wz]) [1, 0] (by decide) rfl ?_
    exact g_zret (pc := 22) X hA (rfl) (⟨congrArg (fun z => some (Value.int (iI z))) ((bI_f (by omega)).symm), rfl⟩) (by decide) (by decide) dX10_leansAt_22
  · refine g_aload_n (pc := 8) X 0 rfl dX10_leansAt_8 ?_
    refine g_get (pc := 9) X inlX10 1 rfl rfl 5 (by decide) mw_7_6 rfl dX10_leansAt_9 ?_
    refine g_iload_n (pc := 12) X 1 rfl dX10_leansAt_12 ?_
    refine g_zaldI (pc := 13) X 0 rfl (by omega) (by omega) (Int.le_trans b_w.2 (by decide)) dX10_leansAt_13 ?_
    refine g_nameI (fun y2 ey2 => ?_)
    have by2 : 0 ≤ y2 ∧ y2 ≤ 1 := by rw [ey2]; exact h_Wz _ (by omega)
    refine g_if_eqI (pc := 14) X 21 (by decide) (inRb by2 (by decide) (by decide)) dX10_leansAt_14 (fun c14 => ?_) (fun c14 => ?_)
    · refine g_iconst (pc := 21) X (iI 0) (by rfl) dX10_leansAt_21 ?_
      refine g_ws (ws' := [cO_rrrrrrii w0 10 w_begins w_lengths w_lefts w_rights w_leans w_leaning wn wr, cA Z w_leaning 2 8 Wz]) [1, 0] (by decide) rfl ?_
      exact g_zret (pc := 22) X hA (rfl) (⟨congrArg (fun z => some (Value.int (iI z))) ((bI_f (by omega)).symm), rfl⟩) (by decide) (by decide) dX10_leansAt_22
    · refine g_iconst (pc := 17) X (iI 1) (by rfl) dX10_leansAt_17 ?_
      refine g_goto (pc := 18) X 22 (by decide) dX10_leansAt_18 ?_
      refine g_ws (ws' := [cO_rrrrrrii w0 10 w_begins w_lengths w_lefts w_rights w_leans w_leaning wn wr, cA Z w_leaning 2 8 Wz]) [1, 0] (by decide) rfl ?_
      exact g_zret (pc := 22) X hA (rfl) (⟨congrArg (fun z => some (Value.int (iI z))) ((bI_t (by omega)).symm), rfl⟩) (by decide) (by decide) dX10_leansAt_22

set_option maxHeartbeats 4000000 in
set_option maxRecDepth 100000 in
theorem kx_X10_lean (l : Launch) (Z : gZ) (w0 : Nat) (w_begins : Nat) (w_lengths : Nat) (w_lefts : Nat) (w_rights : Nat) (w_leans : Nat) (w_leaning : Nat) (Wm : Nat → Int) (Wz : Nat → Int) (w : Int) (of : Int) (wn : Int) (wr : Int) (b_w : (-2147483648) ≤ w ∧ w ≤ 2147483647) (b_of : (-50) ≤ of ∧ of ≤ 50) (b_wn : 0 ≤ wn ∧ wn ≤ 8) (b_wr : 0 ≤ wr ∧ wr ≤ 4800) (hw : 0 ≤ w ∧ w < wn) (h_Wm : ∀ j, j < 8 → (-50) ≤ Wm j ∧ Wm j ≤ 50) (h_Wz : ∀ j, j < 8 → 0 ≤ Wz j ∧ Wz j ≤ 1) : Con l Z yX10_lean cX10_lean 3 none 1 21 0 0 [.ref w0, .int (iI w), .int (iI of)] [cO_rrrrrrii w0 10 w_begins w_lengths w_lefts w_rights w_leans w_leaning wn wr, cA Z w_leans 0 8 Wm, cA Z w_leaning 2 8 Wz] (fun r w' => ∃ (Wm2 : Nat → Int) (Wz2 : Nat → Int), (r = none) ∧ (w' = [cO_rrrrrrii w0 10 w_begins w_lengths w_lefts w_rights w_leans w_leaning wn wr, cA Z w_leans 0 8 Wm2, cA Z w_leaning 2 8 Wz2]) ∧ (∀ j, j < 8 → (-50) ≤ Wm2 j ∧ Wm2 j ≤ 50) ∧ (∀ j, j < 8 → 0 ≤ Wz2 j ∧ Wz2 j ≤ 1) ∧ (Wm2 = updI Wm w.toNat of) ∧ (Wz2 = updI Wz w.toNat 1)) := by
  refine enter (by decide) (Nat.le_of_ble_eq_true rfl) ?_
  intro p e s m args below meth c A X hnm hA
  have X : Cx p s m args meth c cX10_lean 3 none RX10 Z A := X
  refine g_as (pc' := 0) (lv' := [(0, .ref w0), (1, .int (iI w)), (2, .int (iI of))]) (st' := []) (ws' := [cO_rrrrrrii w0 10 w_begins w_lengths w_lefts w_rights w_leans w_leaning wn wr, cA Z w_leans 0 8 Wm, cA Z w_leaning 2 8 Wz]) rfl rfl rfl rfl ?_
  refine g_aload_n (pc := 0) X 0 rfl dX10_lean_0 ?_
  refine g_iload_n (pc := 1) X 1 rfl dX10_lean_1 ?_
  refine g_callV (pc := 2) X (k_X10_has l Z w0 w_begins w_lengths w_lefts w_rights w_leans w_leaning w wn wr b_w b_wn b_wr) iM_X10_has mw_17_19 mw_17_20 mw_17_21 0 rfl rfl [0] [1, 2] rfl (wr := [cA Z w_leans 0 8 Wm, cA Z w_leaning 2 8 Wz]) rfl (by decide) rfl rfl (Nat.le_of_ble_eq_true rfl) (by decide) dX10_lean_2 (fun r w' hpo => ?_)
  obtain ⟨rfl, rfl⟩ := hpo
  refine g_as (pc' := 5) (lv' := [(0, .ref w0), (1, .int (iI w)), (2, .int (iI of))]) (st' := [.int (iI (bI (0 ≤ w ∧ w < wn)))]) (ws' := [cA Z w_leans 0 8 Wm, cA Z w_leaning 2 8 Wz, cO_rrrrrrii w0 10 w_begins w_lengths w_lefts w_rights w_leans w_leaning wn wr]) rfl rfl rfl rfl ?_
  refine g_if_eqB (pc := 5) X 22 (by decide) dX10_lean_5 (fun h => absurd h (by omega)) (fun c5 => ?_)
  refine g_aload_n (pc := 8) X 0 rfl dX10_lean_8 ?_
  refine g_get (pc := 9) X inlX10 2 rfl rfl 4 (by decide) mw_7_5 rfl dX10_lean_9 ?_
  refine g_iload_n (pc := 12) X 1 rfl dX10_lean_12 ?_
  refine g_iload_n (pc := 13) X 2 rfl dX10_lean_13 ?_
  refine g_iastG (pc := 14) X 0 rfl (by omega) (by omega) (Int.le_trans b_w.2 (by decide)) (ws' := fun F2 => [cA Z w_leans 0 8 F2, cA Z w_leaning 2 8 Wz, cO_rrrrrrii w0 10 w_begins w_lengths w_lefts w_rights w_leans w_leaning wn wr]) (fun _ => rfl) dX10_lean_14 (fun F2 eF2 => ?_)
  have hF2 : ∀ j, j < 8 → (-50) ≤ F2 j ∧ F2 j ≤ 50 := by rw [eF2]; exact updI_B h_Wm (by omega)
  refine g_aload_n (pc := 15) X 0 rfl dX10_lean_15 ?_
  refine g_get (pc := 16) X inlX10 2 rfl rfl 5 (by decide) mw_7_6 rfl dX10_lean_16 ?_
  refine g_iload_n (pc := 19) X 1 rfl dX10_lean_19 ?_
  refine g_iconst (pc := 20) X (iI 1) (by rfl) dX10_lean_20 ?_
  refine g_zastG (pc := 21) X 1 rfl (by omega) (by omega) (Int.le_trans b_w.2 (by decide)) (by omega) (ws' := fun F3 => [cA Z w_leans 0 8 F2, cA Z w_leaning 2 8 F3, cO_rrrrrrii w0 10 w_begins w_lengths w_lefts w_rights w_leans w_leaning wn wr]) (fun _ => rfl) dX10_lean_21 (fun F3 eF3 => ?_)
  have hF3 : ∀ j, j < 8 → 0 ≤ F3 j ∧ F3 j ≤ 1 := by rw [eF3]; exact updI_B h_Wz (by omega)
  refine g_ws (ws' := [cO_rrrrrrii w0 10 w_begins w_lengths w_lefts w_rights w_leans w_leaning wn wr, cA Z w_leans 0 8 F2, cA Z w_leaning 2 8 F3]) [2, 0, 1] (by decide) rfl ?_
  exact g_vret (pc := 22) X hA (⟨F2, F3, rfl, rfl, (hF2), (hF3), (eF2), (eF3)⟩) (by decide) (by decide) dX10_lean_22

set_option maxHeartbeats 4000000 in
set_option maxRecDepth 100000 in
theorem kx_X10_add (l : Launch) (Z : gZ) (w0 : Nat) (w_begins : Nat) (w_lengths : Nat) (w_lefts : Nat) (w_rights : Nat) (w_leans : Nat) (w_leaning : Nat) (Wb : Nat → Int) (Wl : Nat → Int) (Wh : Nat → Int) (Wk : Nat → Int) (Wm : Nat → Int) (Wz : Nat → Int) (le : Int) (lf : Int) (rg : Int) (wn : Int) (wr : Int) (b_le : 50 ≤ le ∧ le ≤ 600) (b_lf : 100 ≤ lf ∧ lf ≤ 400) (b_rg : 100 ≤ rg ∧ rg ≤ 400) (b_wn : 0 ≤ wn ∧ wn ≤ 8) (b_wr : 0 ≤ wr ∧ wr ≤ 4800) (hr : wr ≤ 600 * wn) (h8 : wn < 8) (h_Wb : ∀ j, j < 8 → 0 ≤ Wb j ∧ Wb j ≤ 4800) (h_Wl : ∀ j, j < 8 → 0 ≤ Wl j ∧ Wl j ≤ 600) (h_Wh : ∀ j, j < 8 → 0 ≤ Wh j ∧ Wh j ≤ 400) (h_Wk : ∀ j, j < 8 → 0 ≤ Wk j ∧ Wk j ≤ 400) (h_Wm : ∀ j, j < 8 → (-50) ≤ Wm j ∧ Wm j ≤ 50) (h_Wz : ∀ j, j < 8 → 0 ≤ Wz j ∧ Wz j ≤ 1) : Con l Z yX10_add cX10_add 4 none 0 0 0 0 [.ref w0, .int (iI le), .int (iI lf), .int (iI rg)] [cO_rrrrrrii w0 10 w_begins w_lengths w_lefts w_rights w_leans w_leaning wn wr, cA Z w_begins 0 8 Wb, cA Z w_lengths 0 8 Wl, cA Z w_lefts 0 8 Wh, cA Z w_rights 0 8 Wk, cA Z w_leans 0 8 Wm, cA Z w_leaning 2 8 Wz] (fun r w' => ∃ (Wb2 : Nat → Int) (Wl2 : Nat → Int) (Wh2 : Nat → Int) (Wk2 : Nat → Int) (Wm2 : Nat → Int) (Wz2 : Nat → Int) (wn2 : Int) (wr2 : Int), (r = none) ∧ (w' = [cO_rrrrrrii w0 10 w_begins w_lengths w_lefts w_rights w_leans w_leaning wn2 wr2, cA Z w_begins 0 8 Wb2, cA Z w_lengths 0 8 Wl2, cA Z w_lefts 0 8 Wh2, cA Z w_rights 0 8 Wk2, cA Z w_leans 0 8 Wm2, cA Z w_leaning 2 8 Wz2]) ∧ (0 ≤ wn2 ∧ wn2 ≤ 8) ∧ (0 ≤ wr2 ∧ wr2 ≤ 4800) ∧ (∀ j, j < 8 → 0 ≤ Wb2 j ∧ Wb2 j ≤ 4800) ∧ (∀ j, j < 8 → 0 ≤ Wl2 j ∧ Wl2 j ≤ 600) ∧ (∀ j, j < 8 → 0 ≤ Wh2 j ∧ Wh2 j ≤ 400) ∧ (∀ j, j < 8 → 0 ≤ Wk2 j ∧ Wk2 j ≤ 400) ∧ (∀ j, j < 8 → (-50) ≤ Wm2 j ∧ Wm2 j ≤ 50) ∧ (∀ j, j < 8 → 0 ≤ Wz2 j ∧ Wz2 j ≤ 1) ∧ (wr2 ≤ 600 * wn2) ∧ (wn2 = wn + 1) ∧ (wr2 = wr + le) ∧ (Wb2 = updI Wb wn.toNat wr) ∧ (Wl2 = updI Wl wn.toNat le) ∧ (Wh2 = updI Wh wn.toNat lf) ∧ (Wk2 = updI Wk wn.toNat rg) ∧ (Wm2 = updI Wm wn.toNat 0) ∧ (Wz2 = updI Wz wn.toNat 0)) := by
  refine enter (by decide) (Nat.le_of_ble_eq_true rfl) ?_
  intro p e s m args below meth c A X hnm hA
  have X : Cx p s m args meth c cX10_add 4 none RX10 Z A := X
  refine g_as (pc' := 0) (lv' := [(0, .ref w0), (1, .int (iI le)), (2, .int (iI lf)), (3, .int (iI rg))]) (st' := []) (ws' := [cO_rrrrrrii w0 10 w_begins w_lengths w_lefts w_rights w_leans w_leaning wn wr, cA Z w_begins 0 8 Wb, cA Z w_lengths 0 8 Wl, cA Z w_lefts 0 8 Wh, cA Z w_rights 0 8 Wk, cA Z w_leans 0 8 Wm, cA Z w_leaning 2 8 Wz]) rfl rfl rfl rfl ?_
  refine g_aload_n (pc := 0) X 0 rfl dX10_add_0 ?_
  refine g_get (pc := 1) X inlX10 0 rfl rfl 6 (by decide) mw_16_4 rfl dX10_add_1 ?_
  refine g_bipush (pc := 4) X (iI 8) (by decide) dX10_add_4 ?_
  refine g_icmp_ltI (pc := 6) X 10 (by decide) (inRb b_wn (by decide) (by decide)) ⟨by decide, by decide⟩ dX10_add_6 (fun c6 => ?_) (fun h => absurd h (by omega))
  refine g_aload_n (pc := 10) X 0 rfl dX10_add_10 ?_
  refine g_get (pc := 11) X inlX10 0 rfl rfl 0 (by decide) mw_7_1 rfl dX10_add_11 ?_
  refine g_aload_n (pc := 14) X 0 rfl dX10_add_14 ?_
  refine g_get (pc := 15) X inlX10 0 rfl rfl 6 (by decide) mw_16_4 rfl dX10_add_15 ?_
  refine g_aload_n (pc := 18) X 0 rfl dX10_add_18 ?_
  refine g_get (pc := 19) X inlX10 0 rfl rfl 7 (by decide) mw_16_5 rfl dX10_add_19 ?_
  refine g_iastG (pc := 22) X 1 rfl (b_wn.1) (by omega) (Int.le_trans b_wn.2 (by decide)) (ws' := fun F1 => [cO_rrrrrrii w0 10 w_begins w_lengths w_lefts w_rights w_leans w_leaning wn wr, cA Z w_begins 0 8 F1, cA Z w_lengths 0 8 Wl, cA Z w_lefts 0 8 Wh, cA Z w_rights 0 8 Wk, cA Z w_leans 0 8 Wm, cA Z w_leaning 2 8 Wz]) (fun _ => rfl) dX10_add_22 (fun F1 eF1 => ?_)
  have hF1 : ∀ j, j < 8 → 0 ≤ F1 j ∧ F1 j ≤ 4800 := by rw [eF1]; exact updI_B h_Wb (by omega)
  refine g_aload_n (pc := 23) X 0 rfl dX10_add_23 ?_
  refine g_get (pc := 24) X inlX10 0 rfl rfl 1 (by decide) mw_7_2 rfl dX10_add_24 ?_
  refine g_aload_n (pc := 27) X 0 rfl dX10_add_27 ?_
  refine g_get (pc := 28) X inlX10 0 rfl rfl 6 (by decide) mw_16_4 rfl dX10_add_28 ?_
  refine g_iload_n (pc := 31) X 1 rfl dX10_add_31 ?_
  refine g_iastG (pc := 32) X 2 rfl (b_wn.1) (by omega) (Int.le_trans b_wn.2 (by decide)) (ws' := fun F2 => [cO_rrrrrrii w0 10 w_begins w_lengths w_lefts w_rights w_leans w_leaning wn wr, cA Z w_begins 0 8 F1, cA Z w_lengths 0 8 F2, cA Z w_lefts 0 8 Wh, cA Z w_rights 0 8 Wk, cA Z w_leans 0 8 Wm, cA Z w_leaning 2 8 Wz]) (fun _ => rfl) dX10_add_32 (fun F2 eF2 => ?_)
  have hF2 : ∀ j, j < 8 → 0 ≤ F2 j ∧ F2 j ≤ 600 := by rw [eF2]; exact updI_B h_Wl (by omega)
  refine g_aload_n (pc := 33) X 0 rfl dX10_add_33 ?_
  refine g_get (pc := 34) X inlX10 0 rfl rfl 2 (by decide) mw_7_3 rfl dX10_add_34 ?_
  refine g_aload_n (pc := 37) X 0 rfl dX10_add_37 ?_
  refine g_get (pc := 38) X inlX10 0 rfl rfl 6 (by decide) mw_16_4 rfl dX10_add_38 ?_
  refine g_iload_n (pc := 41) X 2 rfl dX10_add_41 ?_
  refine g_iastG (pc := 42) X 3 rfl (b_wn.1) (by omega) (Int.le_trans b_wn.2 (by decide)) (ws' := fun F3 => [cO_rrrrrrii w0 10 w_begins w_lengths w_lefts w_rights w_leans w_leaning wn wr, cA Z w_begins 0 8 F1, cA Z w_lengths 0 8 F2, cA Z w_lefts 0 8 F3, cA Z w_rights 0 8 Wk, cA Z w_leans 0 8 Wm, cA Z w_leaning 2 8 Wz]) (fun _ => rfl) dX10_add_42 (fun F3 eF3 => ?_)
  have hF3 : ∀ j, j < 8 → 0 ≤ F3 j ∧ F3 j ≤ 400 := by rw [eF3]; exact updI_B h_Wh (by omega)
  refine g_aload_n (pc := 43) X 0 rfl dX10_add_43 ?_
  refine g_get (pc := 44) X inlX10 0 rfl rfl 3 (by decide) mw_7_4 rfl dX10_add_44 ?_
  refine g_aload_n (pc := 47) X 0 rfl dX10_add_47 ?_
  refine g_get (pc := 48) X inlX10 0 rfl rfl 6 (by decide) mw_16_4 rfl dX10_add_48 ?_
  refine g_iload_n (pc := 51) X 3 rfl dX10_add_51 ?_
  refine g_iastG (pc := 52) X 4 rfl (b_wn.1) (by omega) (Int.le_trans b_wn.2 (by decide)) (ws' := fun F4 => [cO_rrrrrrii w0 10 w_begins w_lengths w_lefts w_rights w_leans w_leaning wn wr, cA Z w_begins 0 8 F1, cA Z w_lengths 0 8 F2, cA Z w_lefts 0 8 F3, cA Z w_rights 0 8 F4, cA Z w_leans 0 8 Wm, cA Z w_leaning 2 8 Wz]) (fun _ => rfl) dX10_add_52 (fun F4 eF4 => ?_)
  have hF4 : ∀ j, j < 8 → 0 ≤ F4 j ∧ F4 j ≤ 400 := by rw [eF4]; exact updI_B h_Wk (by omega)
  refine g_aload_n (pc := 53) X 0 rfl dX10_add_53 ?_
  refine g_get (pc := 54) X inlX10 0 rfl rfl 4 (by decide) mw_7_5 rfl dX10_add_54 ?_
  refine g_aload_n (pc := 57) X 0 rfl dX10_add_57 ?_
  refine g_get (pc := 58) X inlX10 0 rfl rfl 6 (by decide) mw_16_4 rfl dX10_add_58 ?_
  refine g_iconst (pc := 61) X (iI 0) (by rfl) dX10_add_61 ?_
  refine g_iastG (pc := 62) X 5 rfl (b_wn.1) (by omega) (Int.le_trans b_wn.2 (by decide)) (ws' := fun F5 => [cO_rrrrrrii w0 10 w_begins w_lengths w_lefts w_rights w_leans w_leaning wn wr, cA Z w_begins 0 8 F1, cA Z w_lengths 0 8 F2, cA Z w_lefts 0 8 F3, cA Z w_rights 0 8 F4, cA Z w_leans 0 8 F5, cA Z w_leaning 2 8 Wz]) (fun _ => rfl) dX10_add_62 (fun F5 eF5 => ?_)
  have hF5 : ∀ j, j < 8 → (-50) ≤ F5 j ∧ F5 j ≤ 50 := by rw [eF5]; exact updI_B h_Wm (by omega)
  refine g_aload_n (pc := 63) X 0 rfl dX10_add_63 ?_
  refine g_get (pc := 64) X inlX10 0 rfl rfl 5 (by decide) mw_7_6 rfl dX10_add_64 ?_
  refine g_aload_n (pc := 67) X 0 rfl dX10_add_67 ?_
  refine g_get (pc := 68) X inlX10 0 rfl rfl 6 (by decide) mw_16_4 rfl dX10_add_68 ?_
  refine g_iconst (pc := 71) X (iI 0) (by rfl) dX10_add_71 ?_
  refine g_zastG (pc := 72) X 6 rfl (b_wn.1) (by omega) (Int.le_trans b_wn.2 (by decide)) (by omega) (ws' := fun F6 => [cO_rrrrrrii w0 10 w_begins w_lengths w_lefts w_rights w_leans w_leaning wn wr, cA Z w_begins 0 8 F1, cA Z w_lengths 0 8 F2, cA Z w_lefts 0 8 F3, cA Z w_rights 0 8 F4, cA Z w_leans 0 8 F5, cA Z w_leaning 2 8 F6]) (fun _ => rfl) dX10_add_72 (fun F6 eF6 => ?_)
  have hF6 : ∀ j, j < 8 → 0 ≤ F6 j ∧ F6 j ≤ 1 := by rw [eF6]; exact updI_B h_Wz (by omega)
  refine g_aload_n (pc := 73) X 0 rfl dX10_add_73 ?_
  refine g_dup (pc := 74) X rfl dX10_add_74 ?_
  refine g_get (pc := 75) X inlX10 0 rfl rfl 6 (by decide) mw_16_4 rfl dX10_add_75 ?_
  refine g_iconst (pc := 78) X (iI 1) (by rfl) dX10_add_78 ?_
  refine g_iaddI (pc := 79) X dX10_add_79 ?_
  refine g_put (pc := 80) X inlX10 tyX10_ok nmX10 0 rfl rfl 6 (by decide) mw_16_4 rfl rfl rfl (Nat.le_of_ble_eq_true rfl) (ws' := [cO_rrrrrrii w0 10 w_begins w_lengths w_lefts w_rights w_leans w_leaning (wn + 1) wr, cA Z w_begins 0 8 F1, cA Z w_lengths 0 8 F2, cA Z w_lefts 0 8 F3, cA Z w_rights 0 8 F4, cA Z w_leans 0 8 F5, cA Z w_leaning 2 8 F6]) rfl dX10_add_80 ?_
  refine g_aload_n (pc := 83) X 0 rfl dX10_add_83 ?_
  refine g_dup (pc := 84) X rfl dX10_add_84 ?_
  refine g_get (pc := 85) X inlX10 0 rfl rfl 7 (by decide) mw_16_5 rfl dX10_add_85 ?_
  refine g_iload_n (pc := 88) X 1 rfl dX10_add_88 ?_
  refine g_iaddI (pc := 89) X dX10_add_89 ?_
  refine g_put (pc := 90) X inlX10 tyX10_ok nmX10 0 rfl rfl 7 (by decide) mw_16_5 rfl rfl rfl (Nat.le_of_ble_eq_true rfl) (ws' := [cO_rrrrrrii w0 10 w_begins w_lengths w_lefts w_rights w_leans w_leaning (wn + 1) (wr + le), cA Z w_begins 0 8 F1, cA Z w_lengths 0 8 F2, cA Z w_lefts 0 8 F3, cA Z w_rights 0 8 F4, cA Z w_leans 0 8 F5, cA Z w_leaning 2 8 F6]) rfl dX10_add_90 ?_
  exact g_vret (pc := 93) X hA (⟨F1, F2, F3, F4, F5, F6, (wn + 1), (wr + le), rfl, rfl, (by omega), (by omega), (hF1), (hF2), (hF3), (hF4), (hF5), (hF6), (by omega), (by omega), (by omega), (eF1), (eF2), (eF3), (eF4), (eF5), (eF6)⟩) (by decide) (by decide) dX10_add_93

set_option maxHeartbeats 4000000 in
set_option maxRecDepth 100000 in
theorem kx_X6_addOpening (l : Launch) (Z : gZ) (r0 : Nat) (w0 : Nat) (r_doors : Nat) (r_openingWalls : Nat) (r_froms : Nat) (r_tos : Nat) (r_lowers : Nat) (r_uppers : Nat) (r_standWalls : Nat) (r_standXs : Nat) (r_standYs : Nat) (Rd : Nat → Int) (Rw : Nat → Int) (Rf : Nat → Int) (Rt : Nat → Int) (Rl : Nat → Int) (Ru : Nat → Int) (dr : Int) (wl : Int) (fr : Int) (to : Int) (lo : Int) (up : Int) (ro : Int) (rs : Int) (b_dr : 0 ≤ dr ∧ dr ≤ 1) (b_wl : 0 ≤ wl ∧ wl ≤ 7) (b_fr : 0 ≤ fr ∧ fr ≤ 600) (b_to : 0 ≤ to ∧ to ≤ 600) (b_lo : 0 ≤ lo ∧ lo ≤ 400) (b_up : 0 ≤ up ∧ up ≤ 400) (b_ro : 0 ≤ ro ∧ ro ≤ 8) (b_rs : 0 ≤ rs ∧ rs ≤ 4) (h8 : ro < 8) (h_Rd : ∀ j, j < 8 → 0 ≤ Rd j ∧ Rd j ≤ 1) (h_Rw : ∀ j, j < 8 → 0 ≤ Rw j ∧ Rw j ≤ 7) (h_Rf : ∀ j, j < 8 → 0 ≤ Rf j ∧ Rf j ≤ 600) (h_Rt : ∀ j, j < 8 → 0 ≤ Rt j ∧ Rt j ≤ 600) (h_Rl : ∀ j, j < 8 → 0 ≤ Rl j ∧ Rl j ≤ 400) (h_Ru : ∀ j, j < 8 → 0 ≤ Ru j ∧ Ru j ≤ 400) : Con l Z yX6_addOpening cX6_addOpening 7 none 0 0 0 0 [.ref r0, .int (iI dr), .int (iI wl), .int (iI fr), .int (iI to), .int (iI lo), .int (iI up)] [cO_rirrrrrrirrr r0 6 w0 ro r_doors r_openingWalls r_froms r_tos r_lowers r_uppers rs r_standWalls r_standXs r_standYs, cA Z r_doors 2 8 Rd, cA Z r_openingWalls 0 8 Rw, cA Z r_froms 0 8 Rf, cA Z r_tos 0 8 Rt, cA Z r_lowers 0 8 Rl, cA Z r_uppers 0 8 Ru] (fun r w' => ∃ (Rd2 : Nat → Int) (Rw2 : Nat → Int) (Rf2 : Nat → Int) (Rt2 : Nat → Int) (Rl2 : Nat → Int) (Ru2 : Nat → Int) (ro2 : Int), (r = none) ∧ (w' = [cO_rirrrrrrirrr r0 6 w0 ro2 r_doors r_openingWalls r_froms r_tos r_lowers r_uppers rs r_standWalls r_standXs r_standYs, cA Z r_doors 2 8 Rd2, cA Z r_openingWalls 0 8 Rw2, cA Z r_froms 0 8 Rf2, cA Z r_tos 0 8 Rt2, cA Z r_lowers 0 8 Rl2, cA Z r_uppers 0 8 Ru2]) ∧ (0 ≤ ro2 ∧ ro2 ≤ 8) ∧ (∀ j, j < 8 → 0 ≤ Rd2 j ∧ Rd2 j ≤ 1) ∧ (∀ j, j < 8 → 0 ≤ Rw2 j ∧ Rw2 j ≤ 7) ∧ (∀ j, j < 8 → 0 ≤ Rf2 j ∧ Rf2 j ≤ 600) ∧ (∀ j, j < 8 → 0 ≤ Rt2 j ∧ Rt2 j ≤ 600) ∧ (∀ j, j < 8 → 0 ≤ Rl2 j ∧ Rl2 j ≤ 400) ∧ (∀ j, j < 8 → 0 ≤ Ru2 j ∧ Ru2 j ≤ 400) ∧ (ro2 = ro + 1) ∧ (Rd2 = updI Rd ro.toNat dr) ∧ (Rw2 = updI Rw ro.toNat wl) ∧ (Rf2 = updI Rf ro.toNat fr) ∧ (Rt2 = updI Rt ro.toNat to) ∧ (Rl2 = updI Rl ro.toNat lo) ∧ (Ru2 = updI Ru ro.toNat up)) := by
  refine enter (by decide) (Nat.le_of_ble_eq_true rfl) ?_
  intro p e s m args below meth c A X hnm hA
  have X : Cx p s m args meth c cX6_addOpening 7 none RX6 Z A := X
  refine g_as (pc' := 0) (lv' := [(0, .ref r0), (1, .int (iI dr)), (2, .int (iI wl)), (3, .int (iI fr)), (4, .int (iI to)), (5, .int (iI lo)), (6, .int (iI up))]) (st' := []) (ws' := [cO_rirrrrrrirrr r0 6 w0 ro r_doors r_openingWalls r_froms r_tos r_lowers r_uppers rs r_standWalls r_standXs r_standYs, cA Z r_doors 2 8 Rd, cA Z r_openingWalls 0 8 Rw, cA Z r_froms 0 8 Rf, cA Z r_tos 0 8 Rt, cA Z r_lowers 0 8 Rl, cA Z r_uppers 0 8 Ru]) rfl rfl rfl rfl ?_
  refine g_aload_n (pc := 0) X 0 rfl dX6_addOpening_0 ?_
  refine g_get (pc := 1) X inlX6 0 rfl rfl 1 (by decide) mw_15_22 rfl dX6_addOpening_1 ?_
  refine g_bipush (pc := 4) X (iI 8) (by decide) dX6_addOpening_4 ?_
  refine g_icmp_ltI (pc := 6) X 10 (by decide) (inRb b_ro (by decide) (by decide)) ⟨by decide, by decide⟩ dX6_addOpening_6 (fun c6 => ?_) (fun h => absurd h (by omega))
  refine g_aload_n (pc := 10) X 0 rfl dX6_addOpening_10 ?_
  refine g_get (pc := 11) X inlX6 0 rfl rfl 2 (by decide) mw_6_12 rfl dX6_addOpening_11 ?_
  refine g_aload_n (pc := 14) X 0 rfl dX6_addOpening_14 ?_
  refine g_get (pc := 15) X inlX6 0 rfl rfl 1 (by decide) mw_15_22 rfl dX6_addOpening_15 ?_
  refine g_iload_n (pc := 18) X 1 rfl dX6_addOpening_18 ?_
  refine g_zastG (pc := 19) X 1 rfl (b_ro.1) (by omega) (Int.le_trans b_ro.2 (by decide)) (by omega) (ws' := fun F1 => [cO_rirrrrrrirrr r0 6 w0 ro r_doors r_openingWalls r_froms r_tos r_lowers r_uppers rs r_standWalls r_standXs r_standYs, cA Z r_doors 2 8 F1, cA Z r_openingWalls 0 8 Rw, cA Z r_froms 0 8 Rf, cA Z r_tos 0 8 Rt, cA Z r_lowers 0 8 Rl, cA Z r_uppers 0 8 Ru]) (fun _ => rfl) dX6_addOpening_19 (fun F1 eF1 => ?_)
  have hF1 : ∀ j, j < 8 → 0 ≤ F1 j ∧ F1 j ≤ 1 := by rw [eF1]; exact updI_B h_Rd (by omega)
  refine g_aload_n (pc := 20) X 0 rfl dX6_addOpening_20 ?_
  refine g_get (pc := 21) X inlX6 0 rfl rfl 3 (by decide) mw_6_13 rfl dX6_addOpening_21 ?_
  refine g_aload_n (pc := 24) X 0 rfl dX6_addOpening_24 ?_
  refine g_get (pc := 25) X inlX6 0 rfl rfl 1 (by decide) mw_15_22 rfl dX6_addOpening_25 ?_
  refine g_iload_n (pc := 28) X 2 rfl dX6_addOpening_28 ?_
  refine g_iastG (pc := 29) X 2 rfl (b_ro.1) (by omega) (Int.le_trans b_ro.2 (by decide)) (ws' := fun F2 => [cO_rirrrrrrirrr r0 6 w0 ro r_doors r_openingWalls r_froms r_tos r_lowers r_uppers rs r_standWalls r_standXs r_standYs, cA Z r_doors 2 8 F1, cA Z r_openingWalls 0 8 F2, cA Z r_froms 0 8 Rf, cA Z r_tos 0 8 Rt, cA Z r_lowers 0 8 Rl, cA Z r_uppers 0 8 Ru]) (fun _ => rfl) dX6_addOpening_29 (fun F2 eF2 => ?_)
  have hF2 : ∀ j, j < 8 → 0 ≤ F2 j ∧ F2 j ≤ 7 := by rw [eF2]; exact updI_B h_Rw (by omega)
  refine g_aload_n (pc := 30) X 0 rfl dX6_addOpening_30 ?_
  refine g_get (pc := 31) X inlX6 0 rfl rfl 4 (by decide) mw_6_14 rfl dX6_addOpening_31 ?_
  refine g_aload_n (pc := 34) X 0 rfl dX6_addOpening_34 ?_
  refine g_get (pc := 35) X inlX6 0 rfl rfl 1 (by decide) mw_15_22 rfl dX6_addOpening_35 ?_
  refine g_iload_n (pc := 38) X 3 rfl dX6_addOpening_38 ?_
  refine g_iastG (pc := 39) X 3 rfl (b_ro.1) (by omega) (Int.le_trans b_ro.2 (by decide)) (ws' := fun F3 => [cO_rirrrrrrirrr r0 6 w0 ro r_doors r_openingWalls r_froms r_tos r_lowers r_uppers rs r_standWalls r_standXs r_standYs, cA Z r_doors 2 8 F1, cA Z r_openingWalls 0 8 F2, cA Z r_froms 0 8 F3, cA Z r_tos 0 8 Rt, cA Z r_lowers 0 8 Rl, cA Z r_uppers 0 8 Ru]) (fun _ => rfl) dX6_addOpening_39 (fun F3 eF3 => ?_)
  have hF3 : ∀ j, j < 8 → 0 ≤ F3 j ∧ F3 j ≤ 600 := by rw [eF3]; exact updI_B h_Rf (by omega)
  refine g_aload_n (pc := 40) X 0 rfl dX6_addOpening_40 ?_
  refine g_get (pc := 41) X inlX6 0 rfl rfl 5 (by decide) mw_6_15 rfl dX6_addOpening_41 ?_
  refine g_aload_n (pc := 44) X 0 rfl dX6_addOpening_44 ?_
  refine g_get (pc := 45) X inlX6 0 rfl rfl 1 (by decide) mw_15_22 rfl dX6_addOpening_45 ?_
  refine g_iload (pc := 48) X 4 rfl dX6_addOpening_48 ?_
  refine g_iastG (pc := 50) X 4 rfl (b_ro.1) (by omega) (Int.le_trans b_ro.2 (by decide)) (ws' := fun F4 => [cO_rirrrrrrirrr r0 6 w0 ro r_doors r_openingWalls r_froms r_tos r_lowers r_uppers rs r_standWalls r_standXs r_standYs, cA Z r_doors 2 8 F1, cA Z r_openingWalls 0 8 F2, cA Z r_froms 0 8 F3, cA Z r_tos 0 8 F4, cA Z r_lowers 0 8 Rl, cA Z r_uppers 0 8 Ru]) (fun _ => rfl) dX6_addOpening_50 (fun F4 eF4 => ?_)
  have hF4 : ∀ j, j < 8 → 0 ≤ F4 j ∧ F4 j ≤ 600 := by rw [eF4]; exact updI_B h_Rt (by omega)
  refine g_aload_n (pc := 51) X 0 rfl dX6_addOpening_51 ?_
  refine g_get (pc := 52) X inlX6 0 rfl rfl 6 (by decide) mw_6_16 rfl dX6_addOpening_52 ?_
  refine g_aload_n (pc := 55) X 0 rfl dX6_addOpening_55 ?_
  refine g_get (pc := 56) X inlX6 0 rfl rfl 1 (by decide) mw_15_22 rfl dX6_addOpening_56 ?_
  refine g_iload (pc := 59) X 5 rfl dX6_addOpening_59 ?_
  refine g_iastG (pc := 61) X 5 rfl (b_ro.1) (by omega) (Int.le_trans b_ro.2 (by decide)) (ws' := fun F5 => [cO_rirrrrrrirrr r0 6 w0 ro r_doors r_openingWalls r_froms r_tos r_lowers r_uppers rs r_standWalls r_standXs r_standYs, cA Z r_doors 2 8 F1, cA Z r_openingWalls 0 8 F2, cA Z r_froms 0 8 F3, cA Z r_tos 0 8 F4, cA Z r_lowers 0 8 F5, cA Z r_uppers 0 8 Ru]) (fun _ => rfl) dX6_addOpening_61 (fun F5 eF5 => ?_)
  have hF5 : ∀ j, j < 8 → 0 ≤ F5 j ∧ F5 j ≤ 400 := by rw [eF5]; exact updI_B h_Rl (by omega)
  refine g_aload_n (pc := 62) X 0 rfl dX6_addOpening_62 ?_
  refine g_get (pc := 63) X inlX6 0 rfl rfl 7 (by decide) mw_6_17 rfl dX6_addOpening_63 ?_
  refine g_aload_n (pc := 66) X 0 rfl dX6_addOpening_66 ?_
  refine g_get (pc := 67) X inlX6 0 rfl rfl 1 (by decide) mw_15_22 rfl dX6_addOpening_67 ?_
  refine g_iload (pc := 70) X 6 rfl dX6_addOpening_70 ?_
  refine g_iastG (pc := 72) X 6 rfl (b_ro.1) (by omega) (Int.le_trans b_ro.2 (by decide)) (ws' := fun F6 => [cO_rirrrrrrirrr r0 6 w0 ro r_doors r_openingWalls r_froms r_tos r_lowers r_uppers rs r_standWalls r_standXs r_standYs, cA Z r_doors 2 8 F1, cA Z r_openingWalls 0 8 F2, cA Z r_froms 0 8 F3, cA Z r_tos 0 8 F4, cA Z r_lowers 0 8 F5, cA Z r_uppers 0 8 F6]) (fun _ => rfl) dX6_addOpening_72 (fun F6 eF6 => ?_)
  have hF6 : ∀ j, j < 8 → 0 ≤ F6 j ∧ F6 j ≤ 400 := by rw [eF6]; exact updI_B h_Ru (by omega)
  refine g_aload_n (pc := 73) X 0 rfl dX6_addOpening_73 ?_
  refine g_dup (pc := 74) X rfl dX6_addOpening_74 ?_
  refine g_get (pc := 75) X inlX6 0 rfl rfl 1 (by decide) mw_15_22 rfl dX6_addOpening_75 ?_
  refine g_iconst (pc := 78) X (iI 1) (by rfl) dX6_addOpening_78 ?_
  refine g_iaddI (pc := 79) X dX6_addOpening_79 ?_
  refine g_put (pc := 80) X inlX6 tyX6_ok nmX6 0 rfl rfl 1 (by decide) mw_15_22 rfl rfl rfl (Nat.le_of_ble_eq_true rfl) (ws' := [cO_rirrrrrrirrr r0 6 w0 (ro + 1) r_doors r_openingWalls r_froms r_tos r_lowers r_uppers rs r_standWalls r_standXs r_standYs, cA Z r_doors 2 8 F1, cA Z r_openingWalls 0 8 F2, cA Z r_froms 0 8 F3, cA Z r_tos 0 8 F4, cA Z r_lowers 0 8 F5, cA Z r_uppers 0 8 F6]) rfl dX6_addOpening_80 ?_
  exact g_vret (pc := 83) X hA (⟨F1, F2, F3, F4, F5, F6, (ro + 1), rfl, rfl, (by omega), (hF1), (hF2), (hF3), (hF4), (hF5), (hF6), (by omega), (eF1), (eF2), (eF3), (eF4), (eF5), (eF6)⟩) (by decide) (by decide) dX6_addOpening_83

set_option maxHeartbeats 4000000 in
set_option maxRecDepth 100000 in
theorem kx_X6_addStand (l : Launch) (Z : gZ) (r0 : Nat) (w0 : Nat) (r_doors : Nat) (r_openingWalls : Nat) (r_froms : Nat) (r_tos : Nat) (r_lowers : Nat) (r_uppers : Nat) (r_standWalls : Nat) (r_standXs : Nat) (r_standYs : Nat) (Rsw : Nat → Int) (Rsx : Nat → Int) (Rsy : Nat → Int) (wl : Int) (sx : Int) (sy : Int) (ro : Int) (rs : Int) (b_wl : 0 ≤ wl ∧ wl ≤ 7) (b_sx : 0 ≤ sx ∧ sx ≤ 600) (b_sy : 0 ≤ sy ∧ sy ≤ 400) (b_ro : 0 ≤ ro ∧ ro ≤ 8) (b_rs : 0 ≤ rs ∧ rs ≤ 4) (h4 : rs < 4) (h_Rsw : ∀ j, j < 4 → 0 ≤ Rsw j ∧ Rsw j ≤ 7) (h_Rsx : ∀ j, j < 4 → 0 ≤ Rsx j ∧ Rsx j ≤ 600) (h_Rsy : ∀ j, j < 4 → 0 ≤ Rsy j ∧ Rsy j ≤ 400) : Con l Z yX6_addStand cX6_addStand 4 none 0 0 0 0 [.ref r0, .int (iI wl), .int (iI sx), .int (iI sy)] [cO_rirrrrrrirrr r0 6 w0 ro r_doors r_openingWalls r_froms r_tos r_lowers r_uppers rs r_standWalls r_standXs r_standYs, cA Z r_standWalls 0 4 Rsw, cA Z r_standXs 0 4 Rsx, cA Z r_standYs 0 4 Rsy] (fun r w' => ∃ (Rsw2 : Nat → Int) (Rsx2 : Nat → Int) (Rsy2 : Nat → Int) (rs2 : Int), (r = none) ∧ (w' = [cO_rirrrrrrirrr r0 6 w0 ro r_doors r_openingWalls r_froms r_tos r_lowers r_uppers rs2 r_standWalls r_standXs r_standYs, cA Z r_standWalls 0 4 Rsw2, cA Z r_standXs 0 4 Rsx2, cA Z r_standYs 0 4 Rsy2]) ∧ (0 ≤ rs2 ∧ rs2 ≤ 4) ∧ (∀ j, j < 4 → 0 ≤ Rsw2 j ∧ Rsw2 j ≤ 7) ∧ (∀ j, j < 4 → 0 ≤ Rsx2 j ∧ Rsx2 j ≤ 600) ∧ (∀ j, j < 4 → 0 ≤ Rsy2 j ∧ Rsy2 j ≤ 400) ∧ (rs2 = rs + 1) ∧ (Rsw2 = updI Rsw rs.toNat wl) ∧ (Rsx2 = updI Rsx rs.toNat sx) ∧ (Rsy2 = updI Rsy rs.toNat sy)) := by
  refine enter (by decide) (Nat.le_of_ble_eq_true rfl) ?_
  intro p e s m args below meth c A X hnm hA
  have X : Cx p s m args meth c cX6_addStand 4 none RX6 Z A := X
  refine g_as (pc' := 0) (lv' := [(0, .ref r0), (1, .int (iI wl)), (2, .int (iI sx)), (3, .int (iI sy))]) (st' := []) (ws' := [cO_rirrrrrrirrr r0 6 w0 ro r_doors r_openingWalls r_froms r_tos r_lowers r_uppers rs r_standWalls r_standXs r_standYs, cA Z r_standWalls 0 4 Rsw, cA Z r_standXs 0 4 Rsx, cA Z r_standYs 0 4 Rsy]) rfl rfl rfl rfl ?_
  refine g_aload_n (pc := 0) X 0 rfl dX6_addStand_0 ?_
  refine g_get (pc := 1) X inlX6 0 rfl rfl 8 (by decide) mw_15_23 rfl dX6_addStand_1 ?_
  refine g_iconst (pc := 4) X (iI 4) (by rfl) dX6_addStand_4 ?_
  refine g_icmp_ltI (pc := 5) X 9 (by decide) (inRb b_rs (by decide) (by decide)) ⟨by decide, by decide⟩ dX6_addStand_5 (fun c5 => ?_) (fun h => absurd h (by omega))
  refine g_aload_n (pc := 9) X 0 rfl dX6_addStand_9 ?_
  refine g_get (pc := 10) X inlX6 0 rfl rfl 9 (by decide) mw_6_18 rfl dX6_addStand_10 ?_
  refine g_aload_n (pc := 13) X 0 rfl dX6_addStand_13 ?_
  refine g_get (pc := 14) X inlX6 0 rfl rfl 8 (by decide) mw_15_23 rfl dX6_addStand_14 ?_
  refine g_iload_n (pc := 17) X 1 rfl dX6_addStand_17 ?_
  refine g_iastG (pc := 18) X 1 rfl (b_rs.1) (by omega) (Int.le_trans b_rs.2 (by decide)) (ws' := fun F1 => [cO_rirrrrrrirrr r0 6 w0 ro r_doors r_openingWalls r_froms r_tos r_lowers r_uppers rs r_standWalls r_standXs r_standYs, cA Z r_standWalls 0 4 F1, cA Z r_standXs 0 4 Rsx, cA Z r_standYs 0 4 Rsy]) (fun _ => rfl) dX6_addStand_18 (fun F1 eF1 => ?_)
  have hF1 : ∀ j, j < 4 → 0 ≤ F1 j ∧ F1 j ≤ 7 := by rw [eF1]; exact updI_B h_Rsw (by omega)
  refine g_aload_n (pc := 19) X 0 rfl dX6_addStand_19 ?_
  refine g_get (pc := 20) X inlX6 0 rfl rfl 10 (by decide) mw_6_19 rfl dX6_addStand_20 ?_
  refine g_aload_n (pc := 23) X 0 rfl dX6_addStand_23 ?_
  refine g_get (pc := 24) X inlX6 0 rfl rfl 8 (by decide) mw_15_23 rfl dX6_addStand_24 ?_
  refine g_iload_n (pc := 27) X 2 rfl dX6_addStand_27 ?_
  refine g_iastG (pc := 28) X 2 rfl (b_rs.1) (by omega) (Int.le_trans b_rs.2 (by decide)) (ws' := fun F2 => [cO_rirrrrrrirrr r0 6 w0 ro r_doors r_openingWalls r_froms r_tos r_lowers r_uppers rs r_standWalls r_standXs r_standYs, cA Z r_standWalls 0 4 F1, cA Z r_standXs 0 4 F2, cA Z r_standYs 0 4 Rsy]) (fun _ => rfl) dX6_addStand_28 (fun F2 eF2 => ?_)
  have hF2 : ∀ j, j < 4 → 0 ≤ F2 j ∧ F2 j ≤ 600 := by rw [eF2]; exact updI_B h_Rsx (by omega)
  refine g_aload_n (pc := 29) X 0 rfl dX6_addStand_29 ?_
  refine g_get (pc := 30) X inlX6 0 rfl rfl 11 (by decide) mw_6_20 rfl dX6_addStand_30 ?_
  refine g_aload_n (pc := 33) X 0 rfl dX6_addStand_33 ?_
  refine g_get (pc := 34) X inlX6 0 rfl rfl 8 (by decide) mw_15_23 rfl dX6_addStand_34 ?_
  refine g_iload_n (pc := 37) X 3 rfl dX6_addStand_37 ?_
  refine g_iastG (pc := 38) X 3 rfl (b_rs.1) (by omega) (Int.le_trans b_rs.2 (by decide)) (ws' := fun F3 => [cO_rirrrrrrirrr r0 6 w0 ro r_doors r_openingWalls r_froms r_tos r_lowers r_uppers rs r_standWalls r_standXs r_standYs, cA Z r_standWalls 0 4 F1, cA Z r_standXs 0 4 F2, cA Z r_standYs 0 4 F3]) (fun _ => rfl) dX6_addStand_38 (fun F3 eF3 => ?_)
  have hF3 : ∀ j, j < 4 → 0 ≤ F3 j ∧ F3 j ≤ 400 := by rw [eF3]; exact updI_B h_Rsy (by omega)
  refine g_aload_n (pc := 39) X 0 rfl dX6_addStand_39 ?_
  refine g_dup (pc := 40) X rfl dX6_addStand_40 ?_
  refine g_get (pc := 41) X inlX6 0 rfl rfl 8 (by decide) mw_15_23 rfl dX6_addStand_41 ?_
  refine g_iconst (pc := 44) X (iI 1) (by rfl) dX6_addStand_44 ?_
  refine g_iaddI (pc := 45) X dX6_addStand_45 ?_
  refine g_put (pc := 46) X inlX6 tyX6_ok nmX6 0 rfl rfl 8 (by decide) mw_15_23 rfl rfl rfl (Nat.le_of_ble_eq_true rfl) (ws' := [cO_rirrrrrrirrr r0 6 w0 ro r_doors r_openingWalls r_froms r_tos r_lowers r_uppers (rs + 1) r_standWalls r_standXs r_standYs, cA Z r_standWalls 0 4 F1, cA Z r_standXs 0 4 F2, cA Z r_standYs 0 4 F3]) rfl dX6_addStand_46 ?_
  exact g_vret (pc := 49) X hA (⟨F1, F2, F3, (rs + 1), rfl, rfl, (by omega), (hF1), (hF2), (hF3), (by omega), (eF1), (eF2), (eF3)⟩) (by decide) (by decide) dX6_addStand_49

set_option maxHeartbeats 4000000 in
set_option maxRecDepth 100000 in
theorem kx_X4_readWall (l : Launch) (Z : gZ) (e0 : Nat) (t0 : Nat) (r0 : Nat) (t_bytes : Nat) (t_kinds : Nat) (t_places : Nat) (t_values : Nat) (w0 : Nat) (r_doors : Nat) (r_openingWalls : Nat) (r_froms : Nat) (r_tos : Nat) (r_lowers : Nat) (r_uppers : Nat) (r_standWalls : Nat) (r_standXs : Nat) (r_standYs : Nat) (w_begins : Nat) (w_lengths : Nat) (w_lefts : Nat) (w_rights : Nat) (w_leans : Nat) (w_leaning : Nat) (aK : Nat → Int) (aV : Nat → Int) (Tk : Nat → Int) (Tv : Nat → Int) (Wb : Nat → Int) (Wl : Nat → Int) (Wh : Nat → Int) (Wk : Nat → Int) (Wm : Nat → Int) (Wz : Nat → Int) (to0 : Int) (ts : Int) (tk : Int) (ro : Int) (rs : Int) (wn : Int) (wr : Int) (b_to0 : 0 ≤ to0 ∧ to0 ≤ 401) (b_ts : 0 ≤ ts ∧ ts ≤ 400) (b_tk : 0 ≤ tk ∧ tk ≤ 401) (b_ro : 0 ≤ ro ∧ ro ≤ 8) (b_rs : 0 ≤ rs ∧ rs ≤ 4) (b_wn : 0 ≤ wn ∧ wn ≤ 8) (b_wr : 0 ≤ wr ∧ wr ≤ 4800) (hK : ∀ j : Nat, (j : Int) < tk → Tk j = aK j) (hV : ∀ j : Nat, (j : Int) < tk → Tv j = aV j) (hO : ∀ j : Nat, (j : Int) < tk → aK j ≠ 10 → (j : Int) + 1 < tk) (hn : to0 < tk) (hk : aK to0.toNat ≠ 10) (hr : wr ≤ 600 * wn) (h8 : wn < 8) (h_Tk : ∀ j, j < 401 → 0 ≤ Tk j ∧ Tk j ≤ 10) (h_Tv : ∀ j, j < 401 → 0 ≤ Tv j ∧ Tv j ≤ 100000) (h_Wb : ∀ j, j < 8 → 0 ≤ Wb j ∧ Wb j ≤ 4800) (h_Wl : ∀ j, j < 8 → 0 ≤ Wl j ∧ Wl j ≤ 600) (h_Wh : ∀ j, j < 8 → 0 ≤ Wh j ∧ Wh j ≤ 400) (h_Wk : ∀ j, j < 8 → 0 ≤ Wk j ∧ Wk j ≤ 400) (h_Wm : ∀ j, j < 8 → (-50) ≤ Wm j ∧ Wm j ≤ 50) (h_Wz : ∀ j, j < 8 → 0 ≤ Wz j ∧ Wz j ≤ 1) : Con l Z yX4_readWall cX4_readWall 4 (some .boolean) 2 44 0 0 [.ref e0] [cO_rri e0 4 t0 r0 to0, cO_riirrr t0 9 t_bytes ts tk t_kinds t_places t_values, cA Z t_kinds 0 401 Tk, cA Z t_values 0 401 Tv, cO_rirrrrrrirrr r0 6 w0 ro r_doors r_openingWalls r_froms r_tos r_lowers r_uppers rs r_standWalls r_standXs r_standYs, cO_rrrrrrii w0 10 w_begins w_lengths w_lefts w_rights w_leans w_leaning wn wr, cA Z w_begins 0 8 Wb, cA Z w_lengths 0 8 Wl, cA Z w_lefts 0 8 Wh, cA Z w_rights 0 8 Wk, cA Z w_leans 0 8 Wm, cA Z w_leaning 2 8 Wz] (fun r w' => ∃ (Wb2 : Nat → Int) (Wl2 : Nat → Int) (Wh2 : Nat → Int) (Wk2 : Nat → Int) (Wm2 : Nat → Int) (Wz2 : Nat → Int) (to2 : Int) (wn2 : Int) (wr2 : Int) (y : Int), (r = some (.int (iI y))) ∧ (w' = [cO_rri e0 4 t0 r0 to2, cO_riirrr t0 9 t_bytes ts tk t_kinds t_places t_values, cA Z t_kinds 0 401 Tk, cA Z t_values 0 401 Tv, cO_rirrrrrrirrr r0 6 w0 ro r_doors r_openingWalls r_froms r_tos r_lowers r_uppers rs r_standWalls r_standXs r_standYs, cO_rrrrrrii w0 10 w_begins w_lengths w_lefts w_rights w_leans w_leaning wn2 wr2, cA Z w_begins 0 8 Wb2, cA Z w_lengths 0 8 Wl2, cA Z w_lefts 0 8 Wh2, cA Z w_rights 0 8 Wk2, cA Z w_leans 0 8 Wm2, cA Z w_leaning 2 8 Wz2]) ∧ (0 ≤ to2 ∧ to2 ≤ 401) ∧ (0 ≤ wn2 ∧ wn2 ≤ 8) ∧ (0 ≤ wr2 ∧ wr2 ≤ 4800) ∧ (0 ≤ y ∧ y ≤ 1) ∧ (∀ j, j < 8 → 0 ≤ Wb2 j ∧ Wb2 j ≤ 4800) ∧ (∀ j, j < 8 → 0 ≤ Wl2 j ∧ Wl2 j ≤ 600) ∧ (∀ j, j < 8 → 0 ≤ Wh2 j ∧ Wh2 j ≤ 400) ∧ (∀ j, j < 8 → 0 ≤ Wk2 j ∧ Wk2 j ≤ 400) ∧ (∀ j, j < 8 → (-50) ≤ Wm2 j ∧ Wm2 j ≤ 50) ∧ (∀ j, j < 8 → 0 ≤ Wz2 j ∧ Wz2 j ≤ 1) ∧ (to2 < tk) ∧ (to0 < to2) ∧ (y = 1 → to0 + 2 ≤ to2) ∧ (wr2 ≤ 600 * wn2) ∧ ((y = 1 ∧ wlC aK aV to0 = -1 - to2) ∨ (y = 0 ∧ wlC aK aV to0 = to2)) ∧ (y = 1 → wn2 = wn + 1) ∧ (y = 1 → Wl2 = updI Wl wn.toNat (aV (to0 + 1).toNat)) ∧ (y = 1 → Wh2 = updI Wh wn.toNat (aV (to0 + 1 + 1).toNat)) ∧ (y = 1 → Wk2 = updI Wk wn.toNat (aV (to0 + 1 + 1 + 1).toNat)) ∧ (y = 1 → Wm2 = updI Wm wn.toNat 0) ∧ (y = 1 → Wz2 = updI Wz wn.toNat 0) ∧ (y = 1 → wr2 = wr + aV (to0 + 1).toNat) ∧ (y = 1 → Wb2 = updI Wb wn.toNat wr)) := by
  refine enter (by decide) (Nat.le_of_ble_eq_true rfl) ?_
  intro p e s m args below meth c A X hnm hA
  have X : Cx p s m args meth c cX4_readWall 4 (some .boolean) RX4 Z A := X
  refine g_as (pc' := 0) (lv' := [(0, .ref e0)]) (st' := []) (ws' := [cO_rri e0 4 t0 r0 to0, cO_riirrr t0 9 t_bytes ts tk t_kinds t_places t_values, cA Z t_kinds 0 401 Tk, cA Z t_values 0 401 Tv, cO_rirrrrrrirrr r0 6 w0 ro r_doors r_openingWalls r_froms r_tos r_lowers r_uppers rs r_standWalls r_standXs r_standYs, cO_rrrrrrii w0 10 w_begins w_lengths w_lefts w_rights w_leans w_leaning wn wr, cA Z w_begins 0 8 Wb, cA Z w_lengths 0 8 Wl, cA Z w_lefts 0 8 Wh, cA Z w_rights 0 8 Wk, cA Z w_leans 0 8 Wm, cA Z w_leaning 2 8 Wz]) rfl rfl rfl rfl ?_
  have qo := hO to0.toNat (by omega) hk
  refine g_aload_n (pc := 0) X 0 rfl dX4_readWall_0 ?_
  refine g_dup (pc := 1) X rfl dX4_readWall_1 ?_
  refine g_get (pc := 2) X inlX4 0 rfl rfl 2 (by decide) mw_12_0 rfl dX4_readWall_2 ?_
  refine g_iconst (pc := 5) X (iI 1) (by rfl) dX4_readWall_5 ?_
  refine g_iaddI (pc := 6) X dX4_readWall_6 ?_
  refine g_put (pc := 7) X inlX4 tyX4_ok nmX4 0 rfl rfl 2 (by decide) mw_12_0 rfl rfl rfl (Nat.le_of_ble_eq_true rfl) (ws' := [cO_rri e0 4 t0 r0 (to0 + 1), cO_riirrr t0 9 t_bytes ts tk t_kinds t_places t_values, cA Z t_kinds 0 401 Tk, cA Z t_values 0 401 Tv, cO_rirrrrrrirrr r0 6 w0 ro r_doors r_openingWalls r_froms r_tos r_lowers r_uppers rs r_standWalls r_standXs r_standYs, cO_rrrrrrii w0 10 w_begins w_lengths w_lefts w_rights w_leans w_leaning wn wr, cA Z w_begins 0 8 Wb, cA Z w_lengths 0 8 Wl, cA Z w_lefts 0 8 Wh, cA Z w_rights 0 8 Wk, cA Z w_leans 0 8 Wm, cA Z w_leaning 2 8 Wz]) rfl dX4_readWall_7 ?_
  refine g_aload_n (pc := 10) X 0 rfl dX4_readWall_10 ?_
  refine g_bipush (pc := 11) X (iI 50) (by decide) dX4_readWall_11 ?_
  refine g_sipush (pc := 13) X (iI 600) (by decide) dX4_readWall_13 ?_
  refine g_callV (pc := 16) X (kx_X4_readNumber l Z e0 t0 r0 t_bytes t_kinds t_places t_values aK aV Tk Tv 50 600 (to0 + 1) ts tk (by decide) (by decide) (by omega) b_ts b_tk (hK) (hV) (hO) (by omega) (h_Tk) (h_Tv)) iM_X4_readNumber mw_16_22 mw_16_23 mw_17_0 0 rfl rfl [0, 1, 2, 3] [4, 5, 6, 7, 8, 9, 10, 11] rfl (wr := [cO_rirrrrrrirrr r0 6 w0 ro r_doors r_openingWalls r_froms r_tos r_lowers r_uppers rs r_standWalls r_standXs r_standYs, cO_rrrrrrii w0 10 w_begins w_lengths w_lefts w_rights w_leans w_leaning wn wr, cA Z w_begins 0 8 Wb, cA Z w_lengths 0 8 Wl, cA Z w_lefts 0 8 Wh, cA Z w_rights 0 8 Wk, cA Z w_leans 0 8 Wm, cA Z w_leaning 2 8 Wz]) rfl (by decide) rfl rfl (Nat.le_of_ble_eq_true rfl) (by decide) dX4_readWall_16 (fun r w' hpo => ?_)
  rcases hpo with hp0 | hp1
  · obtain ⟨rfl, rfl, hf16_f1⟩ := hp0
    refine g_as (pc' := 19) (lv' := [(0, .ref e0)]) (st' := [.int (iI (-1))]) (ws' := [cO_rirrrrrrirrr r0 6 w0 ro r_doors r_openingWalls r_froms r_tos r_lowers r_uppers rs r_standWalls r_standXs r_standYs, cO_rrrrrrii w0 10 w_begins w_lengths w_lefts w_rights w_leans w_leaning wn wr, cA Z w_begins 0 8 Wb, cA Z w_lengths 0 8 Wl, cA Z w_lefts 0 8 Wh, cA Z w_rights 0 8 Wk, cA Z w_leans 0 8 Wm, cA Z w_leaning 2 8 Wz, cO_rri e0 4 t0 r0 (to0 + 1), cO_riirrr t0 9 t_bytes ts tk t_kinds t_places t_values, cA Z t_kinds 0 401 Tk, cA Z t_values 0 401 Tv]) rfl rfl rfl rfl ?_
    refine g_istore_n (pc := 19) X (i := 1) rfl (by decide) (lv' := [(1, .int (iI (-1))), (0, .ref e0)]) rfl dX4_readWall_19 ?_
    refine g_iload_n (pc := 20) X 0 rfl dX4_readWall_20 ?_
    refine g_iconst (pc := 21) X (iI (-1)) (by rfl) dX4_readWall_21 ?_
    refine g_icmp_neI (pc := 22) X 29 (by decide) ⟨by decide, by decide⟩ ⟨by decide, by decide⟩ dX4_readWall_22 (fun h => absurd h (by decide)) (fun _ => ?_)
    refine g_iconst (pc := 25) X (iI (-1)) (by rfl) dX4_readWall_25 ?_
    refine g_goto (pc := 26) X 38 (by decide) dX4_readWall_26 ?_
    refine g_istore_n (pc := 38) X (i := 2) rfl (by decide) (lv' := [(2, .int (iI (-1))), (1, .int (iI (-1))), (0, .ref e0)]) rfl dX4_readWall_38 ?_
    refine g_iload_n (pc := 39) X 0 rfl dX4_readWall_39 ?_
    refine g_iconst (pc := 40) X (iI (-1)) (by rfl) dX4_readWall_40 ?_
    refine g_icmp_neI (pc := 41) X 48 (by decide) ⟨by decide, by decide⟩ ⟨by decide, by decide⟩ dX4_readWall_41 (fun h => absurd h (by decide)) (fun _ => ?_)
    refine g_iconst (pc := 44) X (iI (-1)) (by rfl) dX4_readWall_44 ?_
    refine g_goto (pc := 45) X 57 (by decide) dX4_readWall_45 ?_
    refine g_istore_n (pc := 57) X (i := 3) rfl (by decide) (lv' := [(3, .int (iI (-1))), (2, .int (iI (-1))), (1, .int (iI (-1))), (0, .ref e0)]) rfl dX4_readWall_57 ?_
    refine g_iload_n (pc := 58) X 0 rfl dX4_readWall_58 ?_
    refine g_iconst (pc := 59) X (iI (-1)) (by rfl) dX4_readWall_59 ?_
    refine g_icmp_eqI (pc := 60) X 72 (by decide) ⟨by decide, by decide⟩ ⟨by decide, by decide⟩ dX4_readWall_60 (fun _ => ?_) (fun h => absurd h (by decide))
    refine g_iconst (pc := 72) X (iI 0) (by rfl) dX4_readWall_72 ?_
    refine g_ws (ws' := [cO_rri e0 4 t0 r0 (to0 + 1), cO_riirrr t0 9 t_bytes ts tk t_kinds t_places t_values, cA Z t_kinds 0 401 Tk, cA Z t_values 0 401 Tv, cO_rirrrrrrirrr r0 6 w0 ro r_doors r_openingWalls r_froms r_tos r_lowers r_uppers rs r_standWalls r_standXs r_standYs, cO_rrrrrrii w0 10 w_begins w_lengths w_lefts w_rights w_leans w_leaning wn wr, cA Z w_begins 0 8 Wb, cA Z w_lengths 0 8 Wl, cA Z w_lefts 0 8 Wh, cA Z w_rights 0 8 Wk, cA Z w_leans 0 8 Wm, cA Z w_leaning 2 8 Wz]) [8, 9, 10, 11, 0, 1, 2, 3, 4, 5, 6, 7] (by decide) rfl ?_
    exact g_zret (pc := 73) X hA (rfl) (⟨Wb, Wl, Wh, Wk, Wm, Wz, (to0 + 1), wn, wr, 0, rfl, rfl, (by omega), (b_wn), (b_wr), (by omega), (h_Wb), (h_Wl), (h_Wh), (h_Wk), (h_Wm), (h_Wz), (by omega), (by omega), (by omega), (by omega), (by have q := wlC_1 (K := aK) (V := aV) (t := to0) (by omega); omega), (fun h => absurd h (by decide)), (fun h => absurd h (by decide)), (fun h => absurd h (by decide)), (fun h => absurd h (by decide)), (fun h => absurd h (by decide)), (fun h => absurd h (by decide)), (fun h => absurd h (by decide)), (fun h => absurd h (by decide))⟩) (by decide) (by decide) dX4_readWall_73
  · refine anD_5 hp1 fun e_r e_w hf16_f1 hf16_f3 hf16_fb => ?_; clear hp1; subst e_r; subst e_w
    refine g_as (pc' := 19) (lv' := [(0, .ref e0)]) (st' := [.int (iI (aV (to0 + 1).toNat))]) (ws' := [cO_rirrrrrrirrr r0 6 w0 ro r_doors r_openingWalls r_froms r_tos r_lowers r_uppers rs r_standWalls r_standXs r_standYs, cO_rrrrrrii w0 10 w_begins w_lengths w_lefts w_rights w_leans w_leaning wn wr, cA Z w_begins 0 8 Wb, cA Z w_lengths 0 8 Wl, cA Z w_lefts 0 8 Wh, cA Z w_rights 0 8 Wk, cA Z w_leans 0 8 Wm, cA Z w_leaning 2 8 Wz, cO_rri e0 4 t0 r0 ((to0 + 1) + 1), cO_riirrr t0 9 t_bytes ts tk t_kinds t_places t_values, cA Z t_kinds 0 401 Tk, cA Z t_values 0 401 Tv]) rfl rfl rfl rfl ?_
    have tt3 : 50 ≤ aV (to0 + 1).toNat ∧ aV (to0 + 1).toNat ≤ 600 := by omega
    refine g_istore_n (pc := 19) X (i := 1) rfl (by decide) (lv' := [(1, .int (iI (aV (to0 + 1).toNat))), (0, .ref e0)]) rfl dX4_readWall_19 ?_
    refine g_iload_n (pc := 20) X 0 rfl dX4_readWall_20 ?_
    refine g_iconst (pc := 21) X (iI (-1)) (by rfl) dX4_readWall_21 ?_
    refine g_icmp_neI (pc := 22) X 29 (by decide) ⟨by omega, by omega⟩ ⟨by decide, by decide⟩ dX4_readWall_22 (fun c22 => ?_) (fun h => absurd h (by omega))
    refine g_aload_n (pc := 29) X 1 rfl dX4_readWall_29 ?_
    refine g_bipush (pc := 30) X (iI 100) (by decide) dX4_readWall_30 ?_
    refine g_sipush (pc := 32) X (iI 400) (by decide) dX4_readWall_32 ?_
    refine g_callV (pc := 35) X (kx_X4_readNumber l Z e0 t0 r0 t_bytes t_kinds t_places t_values aK aV Tk Tv 100 400 ((to0 + 1) + 1) ts tk (by decide) (by decide) (by omega) b_ts b_tk (hK) (hV) (hO) (by omega) (h_Tk) (h_Tv)) iM_X4_readNumber mw_16_22 mw_16_23 mw_17_0 8 rfl rfl [8, 9, 10, 11] [0, 1, 2, 3, 4, 5, 6, 7] rfl (wr := [cO_rirrrrrrirrr r0 6 w0 ro r_doors r_openingWalls r_froms r_tos r_lowers r_uppers rs r_standWalls r_standXs r_standYs, cO_rrrrrrii w0 10 w_begins w_lengths w_lefts w_rights w_leans w_leaning wn wr, cA Z w_begins 0 8 Wb, cA Z w_lengths 0 8 Wl, cA Z w_lefts 0 8 Wh, cA Z w_rights 0 8 Wk, cA Z w_leans 0 8 Wm, cA Z w_leaning 2 8 Wz]) rfl (by decide) rfl rfl (Nat.le_of_ble_eq_true rfl) (by decide) dX4_readWall_35 (fun r w' hpo => ?_)
    rcases hpo with hp0 | hp1
    · obtain ⟨rfl, rfl, hf35_f1⟩ := hp0
      refine g_as (pc' := 38) (lv' := [(1, .int (iI (aV (to0 + 1).toNat))), (0, .ref e0)]) (st' := [.int (iI (-1))]) (ws' := [cO_rirrrrrrirrr r0 6 w0 ro r_doors r_openingWalls r_froms r_tos r_lowers r_uppers rs r_standWalls r_standXs r_standYs, cO_rrrrrrii w0 10 w_begins w_lengths w_lefts w_rights w_leans w_leaning wn wr, cA Z w_begins 0 8 Wb, cA Z w_lengths 0 8 Wl, cA Z w_lefts 0 8 Wh, cA Z w_rights 0 8 Wk, cA Z w_leans 0 8 Wm, cA Z w_leaning 2 8 Wz, cO_rri e0 4 t0 r0 ((to0 + 1) + 1), cO_riirrr t0 9 t_bytes ts tk t_kinds t_places t_values, cA Z t_kinds 0 401 Tk, cA Z t_values 0 401 Tv]) rfl rfl rfl rfl ?_
      refine g_istore_n (pc := 38) X (i := 2) rfl (by decide) (lv' := [(2, .int (iI (-1))), (1, .int (iI (aV (to0 + 1).toNat))), (0, .ref e0)]) rfl dX4_readWall_38 ?_
      refine g_iload_n (pc := 39) X 0 rfl dX4_readWall_39 ?_
      refine g_iconst (pc := 40) X (iI (-1)) (by rfl) dX4_readWall_40 ?_
      refine g_icmp_neI (pc := 41) X 48 (by decide) ⟨by decide, by decide⟩ ⟨by decide, by decide⟩ dX4_readWall_41 (fun h => absurd h (by decide)) (fun _ => ?_)
      refine g_iconst (pc := 44) X (iI (-1)) (by rfl) dX4_readWall_44 ?_
      refine g_goto (pc := 45) X 57 (by decide) dX4_readWall_45 ?_
      refine g_istore_n (pc := 57) X (i := 3) rfl (by decide) (lv' := [(3, .int (iI (-1))), (2, .int (iI (-1))), (1, .int (iI (aV (to0 + 1).toNat))), (0, .ref e0)]) rfl dX4_readWall_57 ?_
      refine g_iload_n (pc := 58) X 0 rfl dX4_readWall_58 ?_
      refine g_iconst (pc := 59) X (iI (-1)) (by rfl) dX4_readWall_59 ?_
      refine g_icmp_eqI (pc := 60) X 72 (by decide) ⟨by decide, by decide⟩ ⟨by decide, by decide⟩ dX4_readWall_60 (fun _ => ?_) (fun h => absurd h (by decide))
      refine g_iconst (pc := 72) X (iI 0) (by rfl) dX4_readWall_72 ?_
      refine g_ws (ws' := [cO_rri e0 4 t0 r0 ((to0 + 1) + 1), cO_riirrr t0 9 t_bytes ts tk t_kinds t_places t_values, cA Z t_kinds 0 401 Tk, cA Z t_values 0 401 Tv, cO_rirrrrrrirrr r0 6 w0 ro r_doors r_openingWalls r_froms r_tos r_lowers r_uppers rs r_standWalls r_standXs r_standYs, cO_rrrrrrii w0 10 w_begins w_lengths w_lefts w_rights w_leans w_leaning wn wr, cA Z w_begins 0 8 Wb, cA Z w_lengths 0 8 Wl, cA Z w_lefts 0 8 Wh, cA Z w_rights 0 8 Wk, cA Z w_leans 0 8 Wm, cA Z w_leaning 2 8 Wz]) [8, 9, 10, 11, 0, 1, 2, 3, 4, 5, 6, 7] (by decide) rfl ?_
      exact g_zret (pc := 73) X hA (rfl) (⟨Wb, Wl, Wh, Wk, Wm, Wz, ((to0 + 1) + 1), wn, wr, 0, rfl, rfl, (by omega), (b_wn), (b_wr), (by omega), (h_Wb), (h_Wl), (h_Wh), (h_Wk), (h_Wm), (h_Wz), (by omega), (by omega), (by omega), (by omega), (by have q := wlC_2 (K := aK) (V := aV) (t := to0) (by omega) (by omega); omega), (fun h => absurd h (by decide)), (fun h => absurd h (by decide)), (fun h => absurd h (by decide)), (fun h => absurd h (by decide)), (fun h => absurd h (by decide)), (fun h => absurd h (by decide)), (fun h => absurd h (by decide)), (fun h => absurd h (by decide))⟩) (by decide) (by decide) dX4_readWall_73
    · refine anD_5 hp1 fun e_r e_w hf35_f1 hf35_f3 hf35_fb => ?_; clear hp1; subst e_r; subst e_w
      refine g_as (pc' := 38) (lv' := [(1, .int (iI (aV (to0 + 1).toNat))), (0, .ref e0)]) (st' := [.int (iI (aV ((to0 + 1) + 1).toNat))]) (ws' := [cO_rirrrrrrirrr r0 6 w0 ro r_doors r_openingWalls r_froms r_tos r_lowers r_uppers rs r_standWalls r_standXs r_standYs, cO_rrrrrrii w0 10 w_begins w_lengths w_lefts w_rights w_leans w_leaning wn wr, cA Z w_begins 0 8 Wb, cA Z w_lengths 0 8 Wl, cA Z w_lefts 0 8 Wh, cA Z w_rights 0 8 Wk, cA Z w_leans 0 8 Wm, cA Z w_leaning 2 8 Wz, cO_rri e0 4 t0 r0 (((to0 + 1) + 1) + 1), cO_riirrr t0 9 t_bytes ts tk t_kinds t_places t_values, cA Z t_kinds 0 401 Tk, cA Z t_values 0 401 Tv]) rfl rfl rfl rfl ?_
      have tt6 : 100 ≤ aV ((to0 + 1) + 1).toNat ∧ aV ((to0 + 1) + 1).toNat ≤ 400 := by omega
      refine g_istore_n (pc := 38) X (i := 2) rfl (by decide) (lv' := [(2, .int (iI (aV ((to0 + 1) + 1).toNat))), (1, .int (iI (aV (to0 + 1).toNat))), (0, .ref e0)]) rfl dX4_readWall_38 ?_
      refine g_iload_n (pc := 39) X 0 rfl dX4_readWall_39 ?_
      refine g_iconst (pc := 40) X (iI (-1)) (by rfl) dX4_readWall_40 ?_
      refine g_icmp_neI (pc := 41) X 48 (by decide) ⟨by omega, by omega⟩ ⟨by decide, by decide⟩ dX4_readWall_41 (fun c41 => ?_) (fun h => absurd h (by omega))
      refine g_aload_n (pc := 48) X 2 rfl dX4_readWall_48 ?_
      refine g_bipush (pc := 49) X (iI 100) (by decide) dX4_readWall_49 ?_
      refine g_sipush (pc := 51) X (iI 400) (by decide) dX4_readWall_51 ?_
      refine g_callV (pc := 54) X (kx_X4_readNumber l Z e0 t0 r0 t_bytes t_kinds t_places t_values aK aV Tk Tv 100 400 (((to0 + 1) + 1) + 1) ts tk (by decide) (by decide) (by omega) b_ts b_tk (hK) (hV) (hO) (by omega) (h_Tk) (h_Tv)) iM_X4_readNumber mw_16_22 mw_16_23 mw_17_0 8 rfl rfl [8, 9, 10, 11] [0, 1, 2, 3, 4, 5, 6, 7] rfl (wr := [cO_rirrrrrrirrr r0 6 w0 ro r_doors r_openingWalls r_froms r_tos r_lowers r_uppers rs r_standWalls r_standXs r_standYs, cO_rrrrrrii w0 10 w_begins w_lengths w_lefts w_rights w_leans w_leaning wn wr, cA Z w_begins 0 8 Wb, cA Z w_lengths 0 8 Wl, cA Z w_lefts 0 8 Wh, cA Z w_rights 0 8 Wk, cA Z w_leans 0 8 Wm, cA Z w_leaning 2 8 Wz]) rfl (by decide) rfl rfl (Nat.le_of_ble_eq_true rfl) (by decide) dX4_readWall_54 (fun r w' hpo => ?_)
      rcases hpo with hp0 | hp1
      · obtain ⟨rfl, rfl, hf54_f1⟩ := hp0
        refine g_as (pc' := 57) (lv' := [(2, .int (iI (aV ((to0 + 1) + 1).toNat))), (1, .int (iI (aV (to0 + 1).toNat))), (0, .ref e0)]) (st' := [.int (iI (-1))]) (ws' := [cO_rirrrrrrirrr r0 6 w0 ro r_doors r_openingWalls r_froms r_tos r_lowers r_uppers rs r_standWalls r_standXs r_standYs, cO_rrrrrrii w0 10 w_begins w_lengths w_lefts w_rights w_leans w_leaning wn wr, cA Z w_begins 0 8 Wb, cA Z w_lengths 0 8 Wl, cA Z w_lefts 0 8 Wh, cA Z w_rights 0 8 Wk, cA Z w_leans 0 8 Wm, cA Z w_leaning 2 8 Wz, cO_rri e0 4 t0 r0 (((to0 + 1) + 1) + 1), cO_riirrr t0 9 t_bytes ts tk t_kinds t_places t_values, cA Z t_kinds 0 401 Tk, cA Z t_values 0 401 Tv]) rfl rfl rfl rfl ?_
        refine g_istore_n (pc := 57) X (i := 3) rfl (by decide) (lv' := [(3, .int (iI (-1))), (2, .int (iI (aV ((to0 + 1) + 1).toNat))), (1, .int (iI (aV (to0 + 1).toNat))), (0, .ref e0)]) rfl dX4_readWall_57 ?_
        refine g_iload_n (pc := 58) X 0 rfl dX4_readWall_58 ?_
        refine g_iconst (pc := 59) X (iI (-1)) (by rfl) dX4_readWall_59 ?_
        refine g_icmp_eqI (pc := 60) X 72 (by decide) ⟨by decide, by decide⟩ ⟨by decide, by decide⟩ dX4_readWall_60 (fun _ => ?_) (fun h => absurd h (by decide))
        refine g_iconst (pc := 72) X (iI 0) (by rfl) dX4_readWall_72 ?_
        refine g_ws (ws' := [cO_rri e0 4 t0 r0 (((to0 + 1) + 1) + 1), cO_riirrr t0 9 t_bytes ts tk t_kinds t_places t_values, cA Z t_kinds 0 401 Tk, cA Z t_values 0 401 Tv, cO_rirrrrrrirrr r0 6 w0 ro r_doors r_openingWalls r_froms r_tos r_lowers r_uppers rs r_standWalls r_standXs r_standYs, cO_rrrrrrii w0 10 w_begins w_lengths w_lefts w_rights w_leans w_leaning wn wr, cA Z w_begins 0 8 Wb, cA Z w_lengths 0 8 Wl, cA Z w_lefts 0 8 Wh, cA Z w_rights 0 8 Wk, cA Z w_leans 0 8 Wm, cA Z w_leaning 2 8 Wz]) [8, 9, 10, 11, 0, 1, 2, 3, 4, 5, 6, 7] (by decide) rfl ?_
        exact g_zret (pc := 73) X hA (rfl) (⟨Wb, Wl, Wh, Wk, Wm, Wz, (((to0 + 1) + 1) + 1), wn, wr, 0, rfl, rfl, (by omega), (b_wn), (b_wr), (by omega), (h_Wb), (h_Wl), (h_Wh), (h_Wk), (h_Wm), (h_Wz), (by omega), (by omega), (by omega), (by omega), (by have q := wlC_3 (K := aK) (V := aV) (t := to0) (by omega) (by omega) (by omega); omega), (fun h => absurd h (by decide)), (fun h => absurd h (by decide)), (fun h => absurd h (by decide)), (fun h => absurd h (by decide)), (fun h => absurd h (by decide)), (fun h => absurd h (by decide)), (fun h => absurd h (by decide)), (fun h => absurd h (by decide))⟩) (by decide) (by decide) dX4_readWall_73
      · refine anD_5 hp1 fun e_r e_w hf54_f1 hf54_f3 hf54_fb => ?_; clear hp1; subst e_r; subst e_w
        refine g_as (pc' := 57) (lv' := [(2, .int (iI (aV ((to0 + 1) + 1).toNat))), (1, .int (iI (aV (to0 + 1).toNat))), (0, .ref e0)]) (st' := [.int (iI (aV (((to0 + 1) + 1) + 1).toNat))]) (ws' := [cO_rirrrrrrirrr r0 6 w0 ro r_doors r_openingWalls r_froms r_tos r_lowers r_uppers rs r_standWalls r_standXs r_standYs, cO_rrrrrrii w0 10 w_begins w_lengths w_lefts w_rights w_leans w_leaning wn wr, cA Z w_begins 0 8 Wb, cA Z w_lengths 0 8 Wl, cA Z w_lefts 0 8 Wh, cA Z w_rights 0 8 Wk, cA Z w_leans 0 8 Wm, cA Z w_leaning 2 8 Wz, cO_rri e0 4 t0 r0 ((((to0 + 1) + 1) + 1) + 1), cO_riirrr t0 9 t_bytes ts tk t_kinds t_places t_values, cA Z t_kinds 0 401 Tk, cA Z t_values 0 401 Tv]) rfl rfl rfl rfl ?_
        have tt9 : 100 ≤ aV (((to0 + 1) + 1) + 1).toNat ∧ aV (((to0 + 1) + 1) + 1).toNat ≤ 400 := by omega
        refine g_istore_n (pc := 57) X (i := 3) rfl (by decide) (lv' := [(3, .int (iI (aV (((to0 + 1) + 1) + 1).toNat))), (2, .int (iI (aV ((to0 + 1) + 1).toNat))), (1, .int (iI (aV (to0 + 1).toNat))), (0, .ref e0)]) rfl dX4_readWall_57 ?_
        refine g_iload_n (pc := 58) X 0 rfl dX4_readWall_58 ?_
        refine g_iconst (pc := 59) X (iI (-1)) (by rfl) dX4_readWall_59 ?_
        refine g_icmp_eqI (pc := 60) X 72 (by decide) ⟨by omega, by omega⟩ ⟨by decide, by decide⟩ dX4_readWall_60 (fun h => absurd h (by omega)) (fun c60 => ?_)
        refine g_aload_n (pc := 63) X 3 rfl dX4_readWall_63 ?_
        refine g_bipush (pc := 64) X (iI 8) (by decide) dX4_readWall_64 ?_
        refine g_callV (pc := 66) X (kx_X4_readSign l Z e0 t0 r0 t_bytes t_kinds t_places t_values aK aV Tk 8 ((((to0 + 1) + 1) + 1) + 1) ts tk (by decide) (by omega) b_ts b_tk (hK) (hO) (by omega) (by omega) (h_Tk)) iM_X4_readSign mw_17_3 mw_17_4 mw_17_5 8 rfl rfl [8, 9, 10] [0, 1, 2, 3, 4, 5, 6, 7, 11] rfl (wr := [cO_rirrrrrrirrr r0 6 w0 ro r_doors r_openingWalls r_froms r_tos r_lowers r_uppers rs r_standWalls r_standXs r_standYs, cO_rrrrrrii w0 10 w_begins w_lengths w_lefts w_rights w_leans w_leaning wn wr, cA Z w_begins 0 8 Wb, cA Z w_lengths 0 8 Wl, cA Z w_lefts 0 8 Wh, cA Z w_rights 0 8 Wk, cA Z w_leans 0 8 Wm, cA Z w_leaning 2 8 Wz, cA Z t_values 0 401 Tv]) rfl (by decide) rfl rfl (Nat.le_of_ble_eq_true rfl) (by decide) dX4_readWall_66 (fun r w' hpo => ?_)
        rcases hpo with hp0 | hp1
        · obtain ⟨rfl, rfl, hf66_f1⟩ := hp0
          refine g_as (pc' := 69) (lv' := [(3, .int (iI (aV (((to0 + 1) + 1) + 1).toNat))), (2, .int (iI (aV ((to0 + 1) + 1).toNat))), (1, .int (iI (aV (to0 + 1).toNat))), (0, .ref e0)]) (st' := [.int (iI 0)]) (ws' := [cO_rirrrrrrirrr r0 6 w0 ro r_doors r_openingWalls r_froms r_tos r_lowers r_uppers rs r_standWalls r_standXs r_standYs, cO_rrrrrrii w0 10 w_begins w_lengths w_lefts w_rights w_leans w_leaning wn wr, cA Z w_begins 0 8 Wb, cA Z w_lengths 0 8 Wl, cA Z w_lefts 0 8 Wh, cA Z w_rights 0 8 Wk, cA Z w_leans 0 8 Wm, cA Z w_leaning 2 8 Wz, cA Z t_values 0 401 Tv, cO_rri e0 4 t0 r0 ((((to0 + 1) + 1) + 1) + 1), cO_riirrr t0 9 t_bytes ts tk t_kinds t_places t_values, cA Z t_kinds 0 401 Tk]) rfl rfl rfl rfl ?_
          refine g_if_neI (pc := 69) X 74 (by decide) ⟨by decide, by decide⟩ dX4_readWall_69 (fun h => absurd h (by decide)) (fun _ => ?_)
          refine g_iconst (pc := 72) X (iI 0) (by rfl) dX4_readWall_72 ?_
          refine g_ws (ws' := [cO_rri e0 4 t0 r0 ((((to0 + 1) + 1) + 1) + 1), cO_riirrr t0 9 t_bytes ts tk t_kinds t_places t_values, cA Z t_kinds 0 401 Tk, cA Z t_values 0 401 Tv, cO_rirrrrrrirrr r0 6 w0 ro r_doors r_openingWalls r_froms r_tos r_lowers r_uppers rs r_standWalls r_standXs r_standYs, cO_rrrrrrii w0 10 w_begins w_lengths w_lefts w_rights w_leans w_leaning wn wr, cA Z w_begins 0 8 Wb, cA Z w_lengths 0 8 Wl, cA Z w_lefts 0 8 Wh, cA Z w_rights 0 8 Wk, cA Z w_leans 0 8 Wm, cA Z w_leaning 2 8 Wz]) [9, 10, 11, 8, 0, 1, 2, 3, 4, 5, 6, 7] (by decide) rfl ?_
          exact g_zret (pc := 73) X hA (rfl) (⟨Wb, Wl, Wh, Wk, Wm, Wz, ((((to0 + 1) + 1) + 1) + 1), wn, wr, 0, rfl, rfl, (by omega), (b_wn), (b_wr), (by omega), (h_Wb), (h_Wl), (h_Wh), (h_Wk), (h_Wm), (h_Wz), (by omega), (by omega), (by omega), (by omega), (by have q := wlC_4 (K := aK) (V := aV) (t := to0) (by omega) (by omega) (by omega) (by omega); omega), (fun h => absurd h (by decide)), (fun h => absurd h (by decide)), (fun h => absurd h (by decide)), (fun h => absurd h (by decide)), (fun h => absurd h (by decide)), (fun h => absurd h (by decide)), (fun h => absurd h (by decide)), (fun h => absurd h (by decide))⟩) (by decide) (by decide) dX4_readWall_73
        · refine anD_4 hp1 fun e_r e_w hf66_f1 hf66_f3 => ?_; clear hp1; subst e_r; subst e_w
          refine g_as (pc' := 69) (lv' := [(3, .int (iI (aV (((to0 + 1) + 1) + 1).toNat))), (2, .int (iI (aV ((to0 + 1) + 1).toNat))), (1, .int (iI (aV (to0 + 1).toNat))), (0, .ref e0)]) (st' := [.int (iI 1)]) (ws' := [cO_rirrrrrrirrr r0 6 w0 ro r_doors r_openingWalls r_froms r_tos r_lowers r_uppers rs r_standWalls r_standXs r_standYs, cO_rrrrrrii w0 10 w_begins w_lengths w_lefts w_rights w_leans w_leaning wn wr, cA Z w_begins 0 8 Wb, cA Z w_lengths 0 8 Wl, cA Z w_lefts 0 8 Wh, cA Z w_rights 0 8 Wk, cA Z w_leans 0 8 Wm, cA Z w_leaning 2 8 Wz, cA Z t_values 0 401 Tv, cO_rri e0 4 t0 r0 (((((to0 + 1) + 1) + 1) + 1) + 1), cO_riirrr t0 9 t_bytes ts tk t_kinds t_places t_values, cA Z t_kinds 0 401 Tk]) rfl rfl rfl rfl ?_
          refine g_if_neI (pc := 69) X 74 (by decide) ⟨by decide, by decide⟩ dX4_readWall_69 (fun _ => ?_) (fun h => absurd h (by decide))
          refine g_aload_n (pc := 74) X 3 rfl dX4_readWall_74 ?_
          refine g_get (pc := 75) X inlX4 9 rfl rfl 1 (by decide) mw_12_1 rfl dX4_readWall_75 ?_
          refine g_get (pc := 78) X inlX6 0 rfl rfl 0 (by decide) mw_12_2 rfl dX4_readWall_78 ?_
          refine g_iload_n (pc := 81) X 2 rfl dX4_readWall_81 ?_
          refine g_iload_n (pc := 82) X 1 rfl dX4_readWall_82 ?_
          refine g_iload_n (pc := 83) X 0 rfl dX4_readWall_83 ?_
          refine g_callV (pc := 84) X (kx_X10_add l Z w0 w_begins w_lengths w_lefts w_rights w_leans w_leaning Wb Wl Wh Wk Wm Wz (aV (to0 + 1).toNat) (aV ((to0 + 1) + 1).toNat) (aV (((to0 + 1) + 1) + 1).toNat) wn wr (by omega) (by omega) (by omega) b_wn b_wr (by omega) (by omega) (h_Wb) (h_Wl) (h_Wh) (h_Wk) (h_Wm) (h_Wz)) iM_X10_add mw_17_7 mw_17_8 mw_17_9 1 rfl rfl [1, 2, 3, 4, 5, 6, 7] [0, 8, 9, 10, 11] rfl (wr := [cO_rirrrrrrirrr r0 6 w0 ro r_doors r_openingWalls r_froms r_tos r_lowers r_uppers rs r_standWalls r_standXs r_standYs, cA Z t_values 0 401 Tv, cO_rri e0 4 t0 r0 (((((to0 + 1) + 1) + 1) + 1) + 1), cO_riirrr t0 9 t_bytes ts tk t_kinds t_places t_values, cA Z t_kinds 0 401 Tk]) rfl (by decide) rfl rfl (Nat.le_of_ble_eq_true rfl) (by decide) dX4_readWall_84 (fun r w' hpo => ?_)
          refine exN_8 hpo fun F12 F13 F14 F15 F16 F17 y18 y19 hz => anD_19 hz fun e_r e_w hf84_b_wn2 hf84_b_wr2 hf84_h_Wb2 hf84_h_Wl2 hf84_h_Wh2 hf84_h_Wk2 hf84_h_Wm2 hf84_h_Wz2 hf84_hr2 hf84_f1 hf84_f2 hf84_e0 hf84_e1 hf84_e2 hf84_e3 hf84_e4 hf84_e5 => ?_; clear hz hpo; subst e_r; subst e_w
          refine g_as (pc' := 87) (lv' := [(3, .int (iI (aV (((to0 + 1) + 1) + 1).toNat))), (2, .int (iI (aV ((to0 + 1) + 1).toNat))), (1, .int (iI (aV (to0 + 1).toNat))), (0, .ref e0)]) (st' := []) (ws' := [cO_rirrrrrrirrr r0 6 w0 ro r_doors r_openingWalls r_froms r_tos r_lowers r_uppers rs r_standWalls r_standXs r_standYs, cA Z t_values 0 401 Tv, cO_rri e0 4 t0 r0 (((((to0 + 1) + 1) + 1) + 1) + 1), cO_riirrr t0 9 t_bytes ts tk t_kinds t_places t_values, cA Z t_kinds 0 401 Tk, cO_rrrrrrii w0 10 w_begins w_lengths w_lefts w_rights w_leans w_leaning y18 y19, cA Z w_begins 0 8 F12, cA Z w_lengths 0 8 F13, cA Z w_lefts 0 8 F14, cA Z w_rights 0 8 F15, cA Z w_leans 0 8 F16, cA Z w_leaning 2 8 F17]) rfl rfl rfl rfl ?_
          refine g_iconst (pc := 87) X (iI 1) (by rfl) dX4_readWall_87 ?_
          refine g_ws (ws' := [cO_rri e0 4 t0 r0 (((((to0 + 1) + 1) + 1) + 1) + 1), cO_riirrr t0 9 t_bytes ts tk t_kinds t_places t_values, cA Z t_kinds 0 401 Tk, cA Z t_values 0 401 Tv, cO_rirrrrrrirrr r0 6 w0 ro r_doors r_openingWalls r_froms r_tos r_lowers r_uppers rs r_standWalls r_standXs r_standYs, cO_rrrrrrii w0 10 w_begins w_lengths w_lefts w_rights w_leans w_leaning y18 y19, cA Z w_begins 0 8 F12, cA Z w_lengths 0 8 F13, cA Z w_lefts 0 8 F14, cA Z w_rights 0 8 F15, cA Z w_leans 0 8 F16, cA Z w_leaning 2 8 F17]) [2, 3, 4, 1, 0, 5, 6, 7, 8, 9, 10, 11] (by decide) rfl ?_
          exact g_zret (pc := 88) X hA (rfl) (⟨F12, F13, F14, F15, F16, F17, (((((to0 + 1) + 1) + 1) + 1) + 1), y18, y19, 1, rfl, rfl, (by omega), (hf84_b_wn2), (hf84_b_wr2), (by omega), (hf84_h_Wb2), (hf84_h_Wl2), (hf84_h_Wh2), (hf84_h_Wk2), (hf84_h_Wm2), (hf84_h_Wz2), (by omega), (by omega), (by omega), (by omega), (by have q := wlC_ok (K := aK) (V := aV) (t := to0) (by omega) (by omega) (by omega) (by omega); omega), (fun _ => hf84_f1), (fun _ => hf84_e1), (fun _ => hf84_e2), (fun _ => hf84_e3), (fun _ => hf84_e4), (fun _ => hf84_e5), (fun _ => hf84_f2), (fun _ => hf84_e0)⟩) (by decide) (by decide) dX4_readWall_88

set_option maxHeartbeats 4000000 in
set_option maxRecDepth 100000 in
theorem kx_X4_readDoor (l : Launch) (Z : gZ) (e0 : Nat) (t0 : Nat) (r0 : Nat) (t_bytes : Nat) (t_kinds : Nat) (t_places : Nat) (t_values : Nat) (w0 : Nat) (r_doors : Nat) (r_openingWalls : Nat) (r_froms : Nat) (r_tos : Nat) (r_lowers : Nat) (r_uppers : Nat) (r_standWalls : Nat) (r_standXs : Nat) (r_standYs : Nat) (w_begins : Nat) (w_lengths : Nat) (w_lefts : Nat) (w_rights : Nat) (w_leans : Nat) (w_leaning : Nat) (aK : Nat → Int) (aV : Nat → Int) (Tk : Nat → Int) (Tv : Nat → Int) (Wl : Nat → Int) (Wh : Nat → Int) (Wk : Nat → Int) (Rd : Nat → Int) (Rw : Nat → Int) (Rf : Nat → Int) (Rt : Nat → Int) (Rl : Nat → Int) (Ru : Nat → Int) (to0 : Int) (ts : Int) (tk : Int) (ro : Int) (rs : Int) (wn : Int) (wr : Int) (b_to0 : 0 ≤ to0 ∧ to0 ≤ 401) (b_ts : 0 ≤ ts ∧ ts ≤ 400) (b_tk : 0 ≤ tk ∧ tk ≤ 401) (b_ro : 0 ≤ ro ∧ ro ≤ 8) (b_rs : 0 ≤ rs ∧ rs ≤ 4) (b_wn : 0 ≤ wn ∧ wn ≤ 8) (b_wr : 0 ≤ wr ∧ wr ≤ 4800) (hK : ∀ j : Nat, (j : Int) < tk → Tk j = aK j) (hV : ∀ j : Nat, (j : Int) < tk → Tv j = aV j) (hO : ∀ j : Nat, (j : Int) < tk → aK j ≠ 10 → (j : Int) + 1 < tk) (hn : to0 < tk) (hk : aK to0.toNat ≠ 10) (h8 : ro < 8) (h_Tk : ∀ j, j < 401 → 0 ≤ Tk j ∧ Tk j ≤ 10) (h_Tv : ∀ j, j < 401 → 0 ≤ Tv j ∧ Tv j ≤ 100000) (h_Wl : ∀ j, j < 8 → 0 ≤ Wl j ∧ Wl j ≤ 600) (h_Wh : ∀ j, j < 8 → 0 ≤ Wh j ∧ Wh j ≤ 400) (h_Wk : ∀ j, j < 8 → 0 ≤ Wk j ∧ Wk j ≤ 400) (h_Rd : ∀ j, j < 8 → 0 ≤ Rd j ∧ Rd j ≤ 1) (h_Rw : ∀ j, j < 8 → 0 ≤ Rw j ∧ Rw j ≤ 7) (h_Rf : ∀ j, j < 8 → 0 ≤ Rf j ∧ Rf j ≤ 600) (h_Rt : ∀ j, j < 8 → 0 ≤ Rt j ∧ Rt j ≤ 600) (h_Rl : ∀ j, j < 8 → 0 ≤ Rl j ∧ Rl j ≤ 400) (h_Ru : ∀ j, j < 8 → 0 ≤ Ru j ∧ Ru j ≤ 400) : Con l Z yX4_readDoor cX4_readDoor 5 (some .boolean) 2 45 0 0 [.ref e0] [cO_rri e0 4 t0 r0 to0, cO_riirrr t0 9 t_bytes ts tk t_kinds t_places t_values, cA Z t_kinds 0 401 Tk, cA Z t_values 0 401 Tv, cO_rirrrrrrirrr r0 6 w0 ro r_doors r_openingWalls r_froms r_tos r_lowers r_uppers rs r_standWalls r_standXs r_standYs, cO_rrrrrrii w0 10 w_begins w_lengths w_lefts w_rights w_leans w_leaning wn wr, cA Z w_lengths 0 8 Wl, cA Z w_lefts 0 8 Wh, cA Z w_rights 0 8 Wk, cA Z r_doors 2 8 Rd, cA Z r_openingWalls 0 8 Rw, cA Z r_froms 0 8 Rf, cA Z r_tos 0 8 Rt, cA Z r_lowers 0 8 Rl, cA Z r_uppers 0 8 Ru] (fun r w' => ∃ (Rd2 : Nat → Int) (Rw2 : Nat → Int) (Rf2 : Nat → Int) (Rt2 : Nat → Int) (Rl2 : Nat → Int) (Ru2 : Nat → Int) (to2 : Int) (ro2 : Int) (y : Int), (r = some (.int (iI y))) ∧ (w' = [cO_rri e0 4 t0 r0 to2, cO_riirrr t0 9 t_bytes ts tk t_kinds t_places t_values, cA Z t_kinds 0 401 Tk, cA Z t_values 0 401 Tv, cO_rirrrrrrirrr r0 6 w0 ro2 r_doors r_openingWalls r_froms r_tos r_lowers r_uppers rs r_standWalls r_standXs r_standYs, cO_rrrrrrii w0 10 w_begins w_lengths w_lefts w_rights w_leans w_leaning wn wr, cA Z w_lengths 0 8 Wl, cA Z w_lefts 0 8 Wh, cA Z w_rights 0 8 Wk, cA Z r_doors 2 8 Rd2, cA Z r_openingWalls 0 8 Rw2, cA Z r_froms 0 8 Rf2, cA Z r_tos 0 8 Rt2, cA Z r_lowers 0 8 Rl2, cA Z r_uppers 0 8 Ru2]) ∧ (0 ≤ to2 ∧ to2 ≤ 401) ∧ (0 ≤ ro2 ∧ ro2 ≤ 8) ∧ (0 ≤ y ∧ y ≤ 1) ∧ (∀ j, j < 8 → 0 ≤ Rd2 j ∧ Rd2 j ≤ 1) ∧ (∀ j, j < 8 → 0 ≤ Rw2 j ∧ Rw2 j ≤ 7) ∧ (∀ j, j < 8 → 0 ≤ Rf2 j ∧ Rf2 j ≤ 600) ∧ (∀ j, j < 8 → 0 ≤ Rt2 j ∧ Rt2 j ≤ 600) ∧ (∀ j, j < 8 → 0 ≤ Rl2 j ∧ Rl2 j ≤ 400) ∧ (∀ j, j < 8 → 0 ≤ Ru2 j ∧ Ru2 j ≤ 400) ∧ (to2 < tk) ∧ (to0 < to2) ∧ (y = 1 → to0 + 2 ≤ to2) ∧ ((y = 1 ∧ doC aK aV wn Wl Wh Wk to0 = -1 - to2) ∨ (y = 0 ∧ doC aK aV wn Wl Wh Wk to0 = to2)) ∧ (y = 1 → ro2 = ro + 1) ∧ (y = 1 → Rd2 = updI Rd ro.toNat 1) ∧ (y = 1 → Rw2 = updI Rw ro.toNat (aV (to0 + 1).toNat)) ∧ (y = 1 → Rf2 = updI Rf ro.toNat (aV (to0 + 1 + 1).toNat)) ∧ (y = 1 → Rt2 = updI Rt ro.toNat (aV (to0 + 1 + 1 + 1).toNat)) ∧ (y = 1 → Rl2 = updI Rl ro.toNat 0) ∧ (y = 1 → Ru2 = updI Ru ro.toNat (aV (to0 + 1 + 1 + 1 + 1).toNat))) := by
  refine enter (by decide) (Nat.le_of_ble_eq_true rfl) ?_
  intro p e s m args below meth c A X hnm hA
  have X : Cx p s m args meth c cX4_readDoor 5 (some .boolean) RX4 Z A := X
  refine g_as (pc' := 0) (lv' := [(0, .ref e0)]) (st' := []) (ws' := [cO_rri e0 4 t0 r0 to0, cO_riirrr t0 9 t_bytes ts tk t_kinds t_places t_values, cA Z t_kinds 0 401 Tk, cA Z t_values 0 401 Tv, cO_rirrrrrrirrr r0 6 w0 ro r_doors r_openingWalls r_froms r_tos r_lowers r_uppers rs r_standWalls r_standXs r_standYs, cO_rrrrrrii w0 10 w_begins w_lengths w_lefts w_rights w_leans w_leaning wn wr, cA Z w_lengths 0 8 Wl, cA Z w_lefts 0 8 Wh, cA Z w_rights 0 8 Wk, cA Z r_doors 2 8 Rd, cA Z r_openingWalls 0 8 Rw, cA Z r_froms 0 8 Rf, cA Z r_tos 0 8 Rt, cA Z r_lowers 0 8 Rl, cA Z r_uppers 0 8 Ru]) rfl rfl rfl rfl ?_
  have qo := hO to0.toNat (by omega) hk
  refine g_aload_n (pc := 0) X 0 rfl dX4_readDoor_0 ?_
  refine g_dup (pc := 1) X rfl dX4_readDoor_1 ?_
  refine g_get (pc := 2) X inlX4 0 rfl rfl 2 (by decide) mw_12_0 rfl dX4_readDoor_2 ?_
  refine g_iconst (pc := 5) X (iI 1) (by rfl) dX4_readDoor_5 ?_
  refine g_iaddI (pc := 6) X dX4_readDoor_6 ?_
  refine g_put (pc := 7) X inlX4 tyX4_ok nmX4 0 rfl rfl 2 (by decide) mw_12_0 rfl rfl rfl (Nat.le_of_ble_eq_true rfl) (ws' := [cO_rri e0 4 t0 r0 (to0 + 1), cO_riirrr t0 9 t_bytes ts tk t_kinds t_places t_values, cA Z t_kinds 0 401 Tk, cA Z t_values 0 401 Tv, cO_rirrrrrrirrr r0 6 w0 ro r_doors r_openingWalls r_froms r_tos r_lowers r_uppers rs r_standWalls r_standXs r_standYs, cO_rrrrrrii w0 10 w_begins w_lengths w_lefts w_rights w_leans w_leaning wn wr, cA Z w_lengths 0 8 Wl, cA Z w_lefts 0 8 Wh, cA Z w_rights 0 8 Wk, cA Z r_doors 2 8 Rd, cA Z r_openingWalls 0 8 Rw, cA Z r_froms 0 8 Rf, cA Z r_tos 0 8 Rt, cA Z r_lowers 0 8 Rl, cA Z r_uppers 0 8 Ru]) rfl dX4_readDoor_7 ?_
  refine g_aload_n (pc := 10) X 0 rfl dX4_readDoor_10 ?_
  refine g_iconst (pc := 11) X (iI 0) (by rfl) dX4_readDoor_11 ?_
  refine g_aload_n (pc := 12) X 0 rfl dX4_readDoor_12 ?_
  refine g_get (pc := 13) X inlX4 0 rfl rfl 1 (by decide) mw_12_1 rfl dX4_readDoor_13 ?_
  refine g_get (pc := 16) X inlX6 4 rfl rfl 0 (by decide) mw_12_2 rfl dX4_readDoor_16 ?_
  refine g_get (pc := 19) X inlX10 5 rfl rfl 6 (by decide) mw_12_3 rfl dX4_readDoor_19 ?_
  refine g_iconst (pc := 22) X (iI 1) (by rfl) dX4_readDoor_22 ?_
  refine g_isubI (pc := 23) X dX4_readDoor_23 ?_
  refine g_callV (pc := 24) X (kx_X4_readNumber l Z e0 t0 r0 t_bytes t_kinds t_places t_values aK aV Tk Tv 0 (wn - 1) (to0 + 1) ts tk (by decide) (by omega) (by omega) b_ts b_tk (hK) (hV) (hO) (by omega) (h_Tk) (h_Tv)) iM_X4_readNumber mw_16_22 mw_16_23 mw_17_0 0 rfl rfl [0, 1, 2, 3] [4, 5, 6, 7, 8, 9, 10, 11, 12, 13, 14] rfl (wr := [cO_rirrrrrrirrr r0 6 w0 ro r_doors r_openingWalls r_froms r_tos r_lowers r_uppers rs r_standWalls r_standXs r_standYs, cO_rrrrrrii w0 10 w_begins w_lengths w_lefts w_rights w_leans w_leaning wn wr, cA Z w_lengths 0 8 Wl, cA Z w_lefts 0 8 Wh, cA Z w_rights 0 8 Wk, cA Z r_doors 2 8 Rd, cA Z r_openingWalls 0 8 Rw, cA Z r_froms 0 8 Rf, cA Z r_tos 0 8 Rt, cA Z r_lowers 0 8 Rl, cA Z r_uppers 0 8 Ru]) rfl (by decide) rfl rfl (Nat.le_of_ble_eq_true rfl) (by decide) dX4_readDoor_24 (fun r w' hpo => ?_)
  rcases hpo with hp0 | hp1
  · obtain ⟨rfl, rfl, hf24_f1⟩ := hp0
    refine g_as (pc' := 27) (lv' := [(0, .ref e0)]) (st' := [.int (iI (-1))]) (ws' := [cO_rirrrrrrirrr r0 6 w0 ro r_doors r_openingWalls r_froms r_tos r_lowers r_uppers rs r_standWalls r_standXs r_standYs, cO_rrrrrrii w0 10 w_begins w_lengths w_lefts w_rights w_leans w_leaning wn wr, cA Z w_lengths 0 8 Wl, cA Z w_lefts 0 8 Wh, cA Z w_rights 0 8 Wk, cA Z r_doors 2 8 Rd, cA Z r_openingWalls 0 8 Rw, cA Z r_froms 0 8 Rf, cA Z r_tos 0 8 Rt, cA Z r_lowers 0 8 Rl, cA Z r_uppers 0 8 Ru, cO_rri e0 4 t0 r0 (to0 + 1), cO_riirrr t0 9 t_bytes ts tk t_kinds t_places t_values, cA Z t_kinds 0 401 Tk, cA Z t_values 0 401 Tv]) rfl rfl rfl rfl ?_
    refine g_istore_n (pc := 27) X (i := 1) rfl (by decide) (lv' := [(1, .int (iI (-1))), (0, .ref e0)]) rfl dX4_readDoor_27 ?_
    refine g_iload_n (pc := 28) X 0 rfl dX4_readDoor_28 ?_
    refine g_iconst (pc := 29) X (iI (-1)) (by rfl) dX4_readDoor_29 ?_
    refine g_icmp_neI (pc := 30) X 37 (by decide) ⟨by decide, by decide⟩ ⟨by decide, by decide⟩ dX4_readDoor_30 (fun h => absurd h (by decide)) (fun _ => ?_)
    refine g_iconst (pc := 33) X (iI (-1)) (by rfl) dX4_readDoor_33 ?_
    refine g_goto (pc := 34) X 53 (by decide) dX4_readDoor_34 ?_
    refine g_istore_n (pc := 53) X (i := 2) rfl (by decide) (lv' := [(2, .int (iI (-1))), (1, .int (iI (-1))), (0, .ref e0)]) rfl dX4_readDoor_53 ?_
    refine g_iload_n (pc := 54) X 0 rfl dX4_readDoor_54 ?_
    refine g_iconst (pc := 55) X (iI (-1)) (by rfl) dX4_readDoor_55 ?_
    refine g_icmp_neI (pc := 56) X 63 (by decide) ⟨by decide, by decide⟩ ⟨by decide, by decide⟩ dX4_readDoor_56 (fun h => absurd h (by decide)) (fun _ => ?_)
    refine g_iconst (pc := 59) X (iI (-1)) (by rfl) dX4_readDoor_59 ?_
    refine g_goto (pc := 60) X 81 (by decide) dX4_readDoor_60 ?_
    refine g_istore_n (pc := 81) X (i := 3) rfl (by decide) (lv' := [(3, .int (iI (-1))), (2, .int (iI (-1))), (1, .int (iI (-1))), (0, .ref e0)]) rfl dX4_readDoor_81 ?_
    refine g_iload_n (pc := 82) X 0 rfl dX4_readDoor_82 ?_
    refine g_iconst (pc := 83) X (iI (-1)) (by rfl) dX4_readDoor_83 ?_
    refine g_icmp_neI (pc := 84) X 91 (by decide) ⟨by decide, by decide⟩ ⟨by decide, by decide⟩ dX4_readDoor_84 (fun h => absurd h (by decide)) (fun _ => ?_)
    refine g_iconst (pc := 87) X (iI (-1)) (by rfl) dX4_readDoor_87 ?_
    refine g_goto (pc := 88) X 110 (by decide) dX4_readDoor_88 ?_
    refine g_istore (pc := 110) X (by decide) (lv' := [(4, .int (iI (-1))), (3, .int (iI (-1))), (2, .int (iI (-1))), (1, .int (iI (-1))), (0, .ref e0)]) rfl dX4_readDoor_110 ?_
    refine g_iload (pc := 112) X 0 rfl dX4_readDoor_112 ?_
    refine g_iconst (pc := 114) X (iI (-1)) (by rfl) dX4_readDoor_114 ?_
    refine g_icmp_eqI (pc := 115) X 127 (by decide) ⟨by decide, by decide⟩ ⟨by decide, by decide⟩ dX4_readDoor_115 (fun _ => ?_) (fun h => absurd h (by decide))
    refine g_iconst (pc := 127) X (iI 0) (by rfl) dX4_readDoor_127 ?_
    refine g_ws (ws' := [cO_rri e0 4 t0 r0 (to0 + 1), cO_riirrr t0 9 t_bytes ts tk t_kinds t_places t_values, cA Z t_kinds 0 401 Tk, cA Z t_values 0 401 Tv, cO_rirrrrrrirrr r0 6 w0 ro r_doors r_openingWalls r_froms r_tos r_lowers r_uppers rs r_standWalls r_standXs r_standYs, cO_rrrrrrii w0 10 w_begins w_lengths w_lefts w_rights w_leans w_leaning wn wr, cA Z w_lengths 0 8 Wl, cA Z w_lefts 0 8 Wh, cA Z w_rights 0 8 Wk, cA Z r_doors 2 8 Rd, cA Z r_openingWalls 0 8 Rw, cA Z r_froms 0 8 Rf, cA Z r_tos 0 8 Rt, cA Z r_lowers 0 8 Rl, cA Z r_uppers 0 8 Ru]) [11, 12, 13, 14, 0, 1, 2, 3, 4, 5, 6, 7, 8, 9, 10] (by decide) rfl ?_
    exact g_zret (pc := 128) X hA (rfl) (⟨Rd, Rw, Rf, Rt, Rl, Ru, (to0 + 1), ro, 0, rfl, rfl, (by omega), (b_ro), (by omega), (h_Rd), (h_Rw), (h_Rf), (h_Rt), (h_Rl), (h_Ru), (by omega), (by omega), (by omega), (by have q := doC_1 (K := aK) (V := aV) (t := to0) (nw := wn) (L := Wl) (H := Wh) (Q := Wk) (by omega); omega), (fun h => absurd h (by decide)), (fun h => absurd h (by decide)), (fun h => absurd h (by decide)), (fun h => absurd h (by decide)), (fun h => absurd h (by decide)), (fun h => absurd h (by decide)), (fun h => absurd h (by decide))⟩) (by decide) (by decide) dX4_readDoor_128
  · refine anD_5 hp1 fun e_r e_w hf24_f1 hf24_f3 hf24_fb => ?_; clear hp1; subst e_r; subst e_w
    refine g_as (pc' := 27) (lv' := [(0, .ref e0)]) (st' := [.int (iI (aV (to0 + 1).toNat))]) (ws' := [cO_rirrrrrrirrr r0 6 w0 ro r_doors r_openingWalls r_froms r_tos r_lowers r_uppers rs r_standWalls r_standXs r_standYs, cO_rrrrrrii w0 10 w_begins w_lengths w_lefts w_rights w_leans w_leaning wn wr, cA Z w_lengths 0 8 Wl, cA Z w_lefts 0 8 Wh, cA Z w_rights 0 8 Wk, cA Z r_doors 2 8 Rd, cA Z r_openingWalls 0 8 Rw, cA Z r_froms 0 8 Rf, cA Z r_tos 0 8 Rt, cA Z r_lowers 0 8 Rl, cA Z r_uppers 0 8 Ru, cO_rri e0 4 t0 r0 ((to0 + 1) + 1), cO_riirrr t0 9 t_bytes ts tk t_kinds t_places t_values, cA Z t_kinds 0 401 Tk, cA Z t_values 0 401 Tv]) rfl rfl rfl rfl ?_
    have tt3 : 0 ≤ aV (to0 + 1).toNat ∧ aV (to0 + 1).toNat ≤ 7 := by omega
    refine g_istore_n (pc := 27) X (i := 1) rfl (by decide) (lv' := [(1, .int (iI (aV (to0 + 1).toNat))), (0, .ref e0)]) rfl dX4_readDoor_27 ?_
    refine g_iload_n (pc := 28) X 0 rfl dX4_readDoor_28 ?_
    refine g_iconst (pc := 29) X (iI (-1)) (by rfl) dX4_readDoor_29 ?_
    refine g_icmp_neI (pc := 30) X 37 (by decide) ⟨by omega, by omega⟩ ⟨by decide, by decide⟩ dX4_readDoor_30 (fun c30 => ?_) (fun h => absurd h (by omega))
    refine g_aload_n (pc := 37) X 1 rfl dX4_readDoor_37 ?_
    refine g_iconst (pc := 38) X (iI 0) (by rfl) dX4_readDoor_38 ?_
    refine g_aload_n (pc := 39) X 1 rfl dX4_readDoor_39 ?_
    refine g_get (pc := 40) X inlX4 11 rfl rfl 1 (by decide) mw_12_1 rfl dX4_readDoor_40 ?_
    refine g_get (pc := 43) X inlX6 0 rfl rfl 0 (by decide) mw_12_2 rfl dX4_readDoor_43 ?_
    refine g_iload_n (pc := 46) X 0 rfl dX4_readDoor_46 ?_
    refine g_callV (pc := 47) X (kx_X10_lengthOf l Z w0 w_begins w_lengths w_lefts w_rights w_leans w_leaning Wl (aV (to0 + 1).toNat) wn wr (by omega) b_wn b_wr (by omega) (h_Wl)) iM_X10_lengthOf mw_17_15 mw_17_16 mw_17_17 1 rfl rfl [1, 2] [0, 3, 4, 5, 6, 7, 8, 9, 10, 11, 12, 13, 14] rfl (wr := [cO_rirrrrrrirrr r0 6 w0 ro r_doors r_openingWalls r_froms r_tos r_lowers r_uppers rs r_standWalls r_standXs r_standYs, cA Z w_lefts 0 8 Wh, cA Z w_rights 0 8 Wk, cA Z r_doors 2 8 Rd, cA Z r_openingWalls 0 8 Rw, cA Z r_froms 0 8 Rf, cA Z r_tos 0 8 Rt, cA Z r_lowers 0 8 Rl, cA Z r_uppers 0 8 Ru, cO_rri e0 4 t0 r0 ((to0 + 1) + 1), cO_riirrr t0 9 t_bytes ts tk t_kinds t_places t_values, cA Z t_kinds 0 401 Tk, cA Z t_values 0 401 Tv]) rfl (by decide) rfl rfl (Nat.le_of_ble_eq_true rfl) (by decide) dX4_readDoor_47 (fun r w' hpo => ?_)
    obtain ⟨rfl, rfl, hf47_fb⟩ := hpo
    refine g_as (pc' := 50) (lv' := [(1, .int (iI (aV (to0 + 1).toNat))), (0, .ref e0)]) (st' := [.int (iI (Wl (aV (to0 + 1).toNat).toNat)), .int (iI 0), .ref e0]) (ws' := [cO_rirrrrrrirrr r0 6 w0 ro r_doors r_openingWalls r_froms r_tos r_lowers r_uppers rs r_standWalls r_standXs r_standYs, cA Z w_lefts 0 8 Wh, cA Z w_rights 0 8 Wk, cA Z r_doors 2 8 Rd, cA Z r_openingWalls 0 8 Rw, cA Z r_froms 0 8 Rf, cA Z r_tos 0 8 Rt, cA Z r_lowers 0 8 Rl, cA Z r_uppers 0 8 Ru, cO_rri e0 4 t0 r0 ((to0 + 1) + 1), cO_riirrr t0 9 t_bytes ts tk t_kinds t_places t_values, cA Z t_kinds 0 401 Tk, cA Z t_values 0 401 Tv, cO_rrrrrrii w0 10 w_begins w_lengths w_lefts w_rights w_leans w_leaning wn wr, cA Z w_lengths 0 8 Wl]) rfl rfl rfl rfl ?_
    refine g_callV (pc := 50) X (kx_X4_readNumber l Z e0 t0 r0 t_bytes t_kinds t_places t_values aK aV Tk Tv 0 (Wl (aV (to0 + 1).toNat).toNat) ((to0 + 1) + 1) ts tk (by decide) (by omega) (by omega) b_ts b_tk (hK) (hV) (hO) (by omega) (h_Tk) (h_Tv)) iM_X4_readNumber mw_16_22 mw_16_23 mw_17_0 9 rfl rfl [9, 10, 11, 12] [0, 1, 2, 3, 4, 5, 6, 7, 8, 13, 14] rfl (wr := [cO_rirrrrrrirrr r0 6 w0 ro r_doors r_openingWalls r_froms r_tos r_lowers r_uppers rs r_standWalls r_standXs r_standYs, cA Z w_lefts 0 8 Wh, cA Z w_rights 0 8 Wk, cA Z r_doors 2 8 Rd, cA Z r_openingWalls 0 8 Rw, cA Z r_froms 0 8 Rf, cA Z r_tos 0 8 Rt, cA Z r_lowers 0 8 Rl, cA Z r_uppers 0 8 Ru, cO_rrrrrrii w0 10 w_begins w_lengths w_lefts w_rights w_leans w_leaning wn wr, cA Z w_lengths 0 8 Wl]) rfl (by decide) rfl rfl (Nat.le_of_ble_eq_true rfl) (by decide) dX4_readDoor_50 (fun r w' hpo => ?_)
    rcases hpo with hp0 | hp1
    · obtain ⟨rfl, rfl, hf50_f1⟩ := hp0
      refine g_as (pc' := 53) (lv' := [(1, .int (iI (aV (to0 + 1).toNat))), (0, .ref e0)]) (st' := [.int (iI (-1))]) (ws' := [cO_rirrrrrrirrr r0 6 w0 ro r_doors r_openingWalls r_froms r_tos r_lowers r_uppers rs r_standWalls r_standXs r_standYs, cA Z w_lefts 0 8 Wh, cA Z w_rights 0 8 Wk, cA Z r_doors 2 8 Rd, cA Z r_openingWalls 0 8 Rw, cA Z r_froms 0 8 Rf, cA Z r_tos 0 8 Rt, cA Z r_lowers 0 8 Rl, cA Z r_uppers 0 8 Ru, cO_rrrrrrii w0 10 w_begins w_lengths w_lefts w_rights w_leans w_leaning wn wr, cA Z w_lengths 0 8 Wl, cO_rri e0 4 t0 r0 ((to0 + 1) + 1), cO_riirrr t0 9 t_bytes ts tk t_kinds t_places t_values, cA Z t_kinds 0 401 Tk, cA Z t_values 0 401 Tv]) rfl rfl rfl rfl ?_
      refine g_istore_n (pc := 53) X (i := 2) rfl (by decide) (lv' := [(2, .int (iI (-1))), (1, .int (iI (aV (to0 + 1).toNat))), (0, .ref e0)]) rfl dX4_readDoor_53 ?_
      refine g_iload_n (pc := 54) X 0 rfl dX4_readDoor_54 ?_
      refine g_iconst (pc := 55) X (iI (-1)) (by rfl) dX4_readDoor_55 ?_
      refine g_icmp_neI (pc := 56) X 63 (by decide) ⟨by decide, by decide⟩ ⟨by decide, by decide⟩ dX4_readDoor_56 (fun h => absurd h (by decide)) (fun _ => ?_)
      refine g_iconst (pc := 59) X (iI (-1)) (by rfl) dX4_readDoor_59 ?_
      refine g_goto (pc := 60) X 81 (by decide) dX4_readDoor_60 ?_
      refine g_istore_n (pc := 81) X (i := 3) rfl (by decide) (lv' := [(3, .int (iI (-1))), (2, .int (iI (-1))), (1, .int (iI (aV (to0 + 1).toNat))), (0, .ref e0)]) rfl dX4_readDoor_81 ?_
      refine g_iload_n (pc := 82) X 0 rfl dX4_readDoor_82 ?_
      refine g_iconst (pc := 83) X (iI (-1)) (by rfl) dX4_readDoor_83 ?_
      refine g_icmp_neI (pc := 84) X 91 (by decide) ⟨by decide, by decide⟩ ⟨by decide, by decide⟩ dX4_readDoor_84 (fun h => absurd h (by decide)) (fun _ => ?_)
      refine g_iconst (pc := 87) X (iI (-1)) (by rfl) dX4_readDoor_87 ?_
      refine g_goto (pc := 88) X 110 (by decide) dX4_readDoor_88 ?_
      refine g_istore (pc := 110) X (by decide) (lv' := [(4, .int (iI (-1))), (3, .int (iI (-1))), (2, .int (iI (-1))), (1, .int (iI (aV (to0 + 1).toNat))), (0, .ref e0)]) rfl dX4_readDoor_110 ?_
      refine g_iload (pc := 112) X 0 rfl dX4_readDoor_112 ?_
      refine g_iconst (pc := 114) X (iI (-1)) (by rfl) dX4_readDoor_114 ?_
      refine g_icmp_eqI (pc := 115) X 127 (by decide) ⟨by decide, by decide⟩ ⟨by decide, by decide⟩ dX4_readDoor_115 (fun _ => ?_) (fun h => absurd h (by decide))
      refine g_iconst (pc := 127) X (iI 0) (by rfl) dX4_readDoor_127 ?_
      refine g_ws (ws' := [cO_rri e0 4 t0 r0 ((to0 + 1) + 1), cO_riirrr t0 9 t_bytes ts tk t_kinds t_places t_values, cA Z t_kinds 0 401 Tk, cA Z t_values 0 401 Tv, cO_rirrrrrrirrr r0 6 w0 ro r_doors r_openingWalls r_froms r_tos r_lowers r_uppers rs r_standWalls r_standXs r_standYs, cO_rrrrrrii w0 10 w_begins w_lengths w_lefts w_rights w_leans w_leaning wn wr, cA Z w_lengths 0 8 Wl, cA Z w_lefts 0 8 Wh, cA Z w_rights 0 8 Wk, cA Z r_doors 2 8 Rd, cA Z r_openingWalls 0 8 Rw, cA Z r_froms 0 8 Rf, cA Z r_tos 0 8 Rt, cA Z r_lowers 0 8 Rl, cA Z r_uppers 0 8 Ru]) [11, 12, 13, 14, 0, 9, 10, 1, 2, 3, 4, 5, 6, 7, 8] (by decide) rfl ?_
      exact g_zret (pc := 128) X hA (rfl) (⟨Rd, Rw, Rf, Rt, Rl, Ru, ((to0 + 1) + 1), ro, 0, rfl, rfl, (by omega), (b_ro), (by omega), (h_Rd), (h_Rw), (h_Rf), (h_Rt), (h_Rl), (h_Ru), (by omega), (by omega), (by omega), (by have q := doC_2 (K := aK) (V := aV) (t := to0) (nw := wn) (L := Wl) (H := Wh) (Q := Wk) (by omega) (by omega); omega), (fun h => absurd h (by decide)), (fun h => absurd h (by decide)), (fun h => absurd h (by decide)), (fun h => absurd h (by decide)), (fun h => absurd h (by decide)), (fun h => absurd h (by decide)), (fun h => absurd h (by decide))⟩) (by decide) (by decide) dX4_readDoor_128
    · refine anD_5 hp1 fun e_r e_w hf50_f1 hf50_f3 hf50_fb => ?_; clear hp1; subst e_r; subst e_w
      refine g_as (pc' := 53) (lv' := [(1, .int (iI (aV (to0 + 1).toNat))), (0, .ref e0)]) (st' := [.int (iI (aV ((to0 + 1) + 1).toNat))]) (ws' := [cO_rirrrrrrirrr r0 6 w0 ro r_doors r_openingWalls r_froms r_tos r_lowers r_uppers rs r_standWalls r_standXs r_standYs, cA Z w_lefts 0 8 Wh, cA Z w_rights 0 8 Wk, cA Z r_doors 2 8 Rd, cA Z r_openingWalls 0 8 Rw, cA Z r_froms 0 8 Rf, cA Z r_tos 0 8 Rt, cA Z r_lowers 0 8 Rl, cA Z r_uppers 0 8 Ru, cO_rrrrrrii w0 10 w_begins w_lengths w_lefts w_rights w_leans w_leaning wn wr, cA Z w_lengths 0 8 Wl, cO_rri e0 4 t0 r0 (((to0 + 1) + 1) + 1), cO_riirrr t0 9 t_bytes ts tk t_kinds t_places t_values, cA Z t_kinds 0 401 Tk, cA Z t_values 0 401 Tv]) rfl rfl rfl rfl ?_
      have tt7 : 0 ≤ aV ((to0 + 1) + 1).toNat ∧ aV ((to0 + 1) + 1).toNat ≤ 600 := by omega
      refine g_istore_n (pc := 53) X (i := 2) rfl (by decide) (lv' := [(2, .int (iI (aV ((to0 + 1) + 1).toNat))), (1, .int (iI (aV (to0 + 1).toNat))), (0, .ref e0)]) rfl dX4_readDoor_53 ?_
      refine g_iload_n (pc := 54) X 0 rfl dX4_readDoor_54 ?_
      refine g_iconst (pc := 55) X (iI (-1)) (by rfl) dX4_readDoor_55 ?_
      refine g_icmp_neI (pc := 56) X 63 (by decide) ⟨by omega, by omega⟩ ⟨by decide, by decide⟩ dX4_readDoor_56 (fun c56 => ?_) (fun h => absurd h (by omega))
      refine g_aload_n (pc := 63) X 2 rfl dX4_readDoor_63 ?_
      refine g_iload_n (pc := 64) X 0 rfl dX4_readDoor_64 ?_
      refine g_iconst (pc := 65) X (iI 1) (by rfl) dX4_readDoor_65 ?_
      refine g_iaddI (pc := 66) X dX4_readDoor_66 ?_
      refine g_aload_n (pc := 67) X 2 rfl dX4_readDoor_67 ?_
      refine g_get (pc := 68) X inlX4 11 rfl rfl 1 (by decide) mw_12_1 rfl dX4_readDoor_68 ?_
      refine g_get (pc := 71) X inlX6 0 rfl rfl 0 (by decide) mw_12_2 rfl dX4_readDoor_71 ?_
      refine g_iload_n (pc := 74) X 1 rfl dX4_readDoor_74 ?_
      refine g_callV (pc := 75) X (kx_X10_lengthOf l Z w0 w_begins w_lengths w_lefts w_rights w_leans w_leaning Wl (aV (to0 + 1).toNat) wn wr (by omega) b_wn b_wr (by omega) (h_Wl)) iM_X10_lengthOf mw_17_15 mw_17_16 mw_17_17 9 rfl rfl [9, 10] [0, 1, 2, 3, 4, 5, 6, 7, 8, 11, 12, 13, 14] rfl (wr := [cO_rirrrrrrirrr r0 6 w0 ro r_doors r_openingWalls r_froms r_tos r_lowers r_uppers rs r_standWalls r_standXs r_standYs, cA Z w_lefts 0 8 Wh, cA Z w_rights 0 8 Wk, cA Z r_doors 2 8 Rd, cA Z r_openingWalls 0 8 Rw, cA Z r_froms 0 8 Rf, cA Z r_tos 0 8 Rt, cA Z r_lowers 0 8 Rl, cA Z r_uppers 0 8 Ru, cO_rri e0 4 t0 r0 (((to0 + 1) + 1) + 1), cO_riirrr t0 9 t_bytes ts tk t_kinds t_places t_values, cA Z t_kinds 0 401 Tk, cA Z t_values 0 401 Tv]) rfl (by decide) rfl rfl (Nat.le_of_ble_eq_true rfl) (by decide) dX4_readDoor_75 (fun r w' hpo => ?_)
      obtain ⟨rfl, rfl, hf75_fb⟩ := hpo
      refine g_as (pc' := 78) (lv' := [(2, .int (iI (aV ((to0 + 1) + 1).toNat))), (1, .int (iI (aV (to0 + 1).toNat))), (0, .ref e0)]) (st' := [.int (iI (Wl (aV (to0 + 1).toNat).toNat)), .int (iI ((aV ((to0 + 1) + 1).toNat) + 1)), .ref e0]) (ws' := [cO_rirrrrrrirrr r0 6 w0 ro r_doors r_openingWalls r_froms r_tos r_lowers r_uppers rs r_standWalls r_standXs r_standYs, cA Z w_lefts 0 8 Wh, cA Z w_rights 0 8 Wk, cA Z r_doors 2 8 Rd, cA Z r_openingWalls 0 8 Rw, cA Z r_froms 0 8 Rf, cA Z r_tos 0 8 Rt, cA Z r_lowers 0 8 Rl, cA Z r_uppers 0 8 Ru, cO_rri e0 4 t0 r0 (((to0 + 1) + 1) + 1), cO_riirrr t0 9 t_bytes ts tk t_kinds t_places t_values, cA Z t_kinds 0 401 Tk, cA Z t_values 0 401 Tv, cO_rrrrrrii w0 10 w_begins w_lengths w_lefts w_rights w_leans w_leaning wn wr, cA Z w_lengths 0 8 Wl]) rfl rfl rfl rfl ?_
      refine g_callV (pc := 78) X (kx_X4_readNumber l Z e0 t0 r0 t_bytes t_kinds t_places t_values aK aV Tk Tv ((aV ((to0 + 1) + 1).toNat) + 1) (Wl (aV (to0 + 1).toNat).toNat) (((to0 + 1) + 1) + 1) ts tk (by omega) (by omega) (by omega) b_ts b_tk (hK) (hV) (hO) (by omega) (h_Tk) (h_Tv)) iM_X4_readNumber mw_16_22 mw_16_23 mw_17_0 9 rfl rfl [9, 10, 11, 12] [0, 1, 2, 3, 4, 5, 6, 7, 8, 13, 14] rfl (wr := [cO_rirrrrrrirrr r0 6 w0 ro r_doors r_openingWalls r_froms r_tos r_lowers r_uppers rs r_standWalls r_standXs r_standYs, cA Z w_lefts 0 8 Wh, cA Z w_rights 0 8 Wk, cA Z r_doors 2 8 Rd, cA Z r_openingWalls 0 8 Rw, cA Z r_froms 0 8 Rf, cA Z r_tos 0 8 Rt, cA Z r_lowers 0 8 Rl, cA Z r_uppers 0 8 Ru, cO_rrrrrrii w0 10 w_begins w_lengths w_lefts w_rights w_leans w_leaning wn wr, cA Z w_lengths 0 8 Wl]) rfl (by decide) rfl rfl (Nat.le_of_ble_eq_true rfl) (by decide) dX4_readDoor_78 (fun r w' hpo => ?_)
      rcases hpo with hp0 | hp1
      · obtain ⟨rfl, rfl, hf78_f1⟩ := hp0
        refine g_as (pc' := 81) (lv' := [(2, .int (iI (aV ((to0 + 1) + 1).toNat))), (1, .int (iI (aV (to0 + 1).toNat))), (0, .ref e0)]) (st' := [.int (iI (-1))]) (ws' := [cO_rirrrrrrirrr r0 6 w0 ro r_doors r_openingWalls r_froms r_tos r_lowers r_uppers rs r_standWalls r_standXs r_standYs, cA Z w_lefts 0 8 Wh, cA Z w_rights 0 8 Wk, cA Z r_doors 2 8 Rd, cA Z r_openingWalls 0 8 Rw, cA Z r_froms 0 8 Rf, cA Z r_tos 0 8 Rt, cA Z r_lowers 0 8 Rl, cA Z r_uppers 0 8 Ru, cO_rrrrrrii w0 10 w_begins w_lengths w_lefts w_rights w_leans w_leaning wn wr, cA Z w_lengths 0 8 Wl, cO_rri e0 4 t0 r0 (((to0 + 1) + 1) + 1), cO_riirrr t0 9 t_bytes ts tk t_kinds t_places t_values, cA Z t_kinds 0 401 Tk, cA Z t_values 0 401 Tv]) rfl rfl rfl rfl ?_
        refine g_istore_n (pc := 81) X (i := 3) rfl (by decide) (lv' := [(3, .int (iI (-1))), (2, .int (iI (aV ((to0 + 1) + 1).toNat))), (1, .int (iI (aV (to0 + 1).toNat))), (0, .ref e0)]) rfl dX4_readDoor_81 ?_
        refine g_iload_n (pc := 82) X 0 rfl dX4_readDoor_82 ?_
        refine g_iconst (pc := 83) X (iI (-1)) (by rfl) dX4_readDoor_83 ?_
        refine g_icmp_neI (pc := 84) X 91 (by decide) ⟨by decide, by decide⟩ ⟨by decide, by decide⟩ dX4_readDoor_84 (fun h => absurd h (by decide)) (fun _ => ?_)
        refine g_iconst (pc := 87) X (iI (-1)) (by rfl) dX4_readDoor_87 ?_
        refine g_goto (pc := 88) X 110 (by decide) dX4_readDoor_88 ?_
        refine g_istore (pc := 110) X (by decide) (lv' := [(4, .int (iI (-1))), (3, .int (iI (-1))), (2, .int (iI (aV ((to0 + 1) + 1).toNat))), (1, .int (iI (aV (to0 + 1).toNat))), (0, .ref e0)]) rfl dX4_readDoor_110 ?_
        refine g_iload (pc := 112) X 0 rfl dX4_readDoor_112 ?_
        refine g_iconst (pc := 114) X (iI (-1)) (by rfl) dX4_readDoor_114 ?_
        refine g_icmp_eqI (pc := 115) X 127 (by decide) ⟨by decide, by decide⟩ ⟨by decide, by decide⟩ dX4_readDoor_115 (fun _ => ?_) (fun h => absurd h (by decide))
        refine g_iconst (pc := 127) X (iI 0) (by rfl) dX4_readDoor_127 ?_
        refine g_ws (ws' := [cO_rri e0 4 t0 r0 (((to0 + 1) + 1) + 1), cO_riirrr t0 9 t_bytes ts tk t_kinds t_places t_values, cA Z t_kinds 0 401 Tk, cA Z t_values 0 401 Tv, cO_rirrrrrrirrr r0 6 w0 ro r_doors r_openingWalls r_froms r_tos r_lowers r_uppers rs r_standWalls r_standXs r_standYs, cO_rrrrrrii w0 10 w_begins w_lengths w_lefts w_rights w_leans w_leaning wn wr, cA Z w_lengths 0 8 Wl, cA Z w_lefts 0 8 Wh, cA Z w_rights 0 8 Wk, cA Z r_doors 2 8 Rd, cA Z r_openingWalls 0 8 Rw, cA Z r_froms 0 8 Rf, cA Z r_tos 0 8 Rt, cA Z r_lowers 0 8 Rl, cA Z r_uppers 0 8 Ru]) [11, 12, 13, 14, 0, 9, 10, 1, 2, 3, 4, 5, 6, 7, 8] (by decide) rfl ?_
        exact g_zret (pc := 128) X hA (rfl) (⟨Rd, Rw, Rf, Rt, Rl, Ru, (((to0 + 1) + 1) + 1), ro, 0, rfl, rfl, (by omega), (b_ro), (by omega), (h_Rd), (h_Rw), (h_Rf), (h_Rt), (h_Rl), (h_Ru), (by omega), (by omega), (by omega), (by have q := doC_3 (K := aK) (V := aV) (t := to0) (nw := wn) (L := Wl) (H := Wh) (Q := Wk) (by omega) (by omega) (by omega); omega), (fun h => absurd h (by decide)), (fun h => absurd h (by decide)), (fun h => absurd h (by decide)), (fun h => absurd h (by decide)), (fun h => absurd h (by decide)), (fun h => absurd h (by decide)), (fun h => absurd h (by decide))⟩) (by decide) (by decide) dX4_readDoor_128
      · refine anD_5 hp1 fun e_r e_w hf78_f1 hf78_f3 hf78_fb => ?_; clear hp1; subst e_r; subst e_w
        refine g_as (pc' := 81) (lv' := [(2, .int (iI (aV ((to0 + 1) + 1).toNat))), (1, .int (iI (aV (to0 + 1).toNat))), (0, .ref e0)]) (st' := [.int (iI (aV (((to0 + 1) + 1) + 1).toNat))]) (ws' := [cO_rirrrrrrirrr r0 6 w0 ro r_doors r_openingWalls r_froms r_tos r_lowers r_uppers rs r_standWalls r_standXs r_standYs, cA Z w_lefts 0 8 Wh, cA Z w_rights 0 8 Wk, cA Z r_doors 2 8 Rd, cA Z r_openingWalls 0 8 Rw, cA Z r_froms 0 8 Rf, cA Z r_tos 0 8 Rt, cA Z r_lowers 0 8 Rl, cA Z r_uppers 0 8 Ru, cO_rrrrrrii w0 10 w_begins w_lengths w_lefts w_rights w_leans w_leaning wn wr, cA Z w_lengths 0 8 Wl, cO_rri e0 4 t0 r0 ((((to0 + 1) + 1) + 1) + 1), cO_riirrr t0 9 t_bytes ts tk t_kinds t_places t_values, cA Z t_kinds 0 401 Tk, cA Z t_values 0 401 Tv]) rfl rfl rfl rfl ?_
        have tt11 : 0 ≤ aV (((to0 + 1) + 1) + 1).toNat ∧ aV (((to0 + 1) + 1) + 1).toNat ≤ 600 := by omega
        refine g_istore_n (pc := 81) X (i := 3) rfl (by decide) (lv' := [(3, .int (iI (aV (((to0 + 1) + 1) + 1).toNat))), (2, .int (iI (aV ((to0 + 1) + 1).toNat))), (1, .int (iI (aV (to0 + 1).toNat))), (0, .ref e0)]) rfl dX4_readDoor_81 ?_
        refine g_iload_n (pc := 82) X 0 rfl dX4_readDoor_82 ?_
        refine g_iconst (pc := 83) X (iI (-1)) (by rfl) dX4_readDoor_83 ?_
        refine g_icmp_neI (pc := 84) X 91 (by decide) ⟨by omega, by omega⟩ ⟨by decide, by decide⟩ dX4_readDoor_84 (fun c84 => ?_) (fun h => absurd h (by omega))
        refine g_aload_n (pc := 91) X 3 rfl dX4_readDoor_91 ?_
        refine g_bipush (pc := 92) X (iI 50) (by decide) dX4_readDoor_92 ?_
        refine g_aload_n (pc := 94) X 3 rfl dX4_readDoor_94 ?_
        refine g_get (pc := 95) X inlX4 11 rfl rfl 1 (by decide) mw_12_1 rfl dX4_readDoor_95 ?_
        refine g_get (pc := 98) X inlX6 0 rfl rfl 0 (by decide) mw_12_2 rfl dX4_readDoor_98 ?_
        refine g_iload_n (pc := 101) X 2 rfl dX4_readDoor_101 ?_
        refine g_callV (pc := 102) X (kx_X10_lesserHeightOf l Z w0 w_begins w_lengths w_lefts w_rights w_leans w_leaning Wh Wk (aV (to0 + 1).toNat) wn wr (by omega) b_wn b_wr (by omega) (h_Wh) (h_Wk)) iM_X10_lesserHeightOf mw_17_23 mw_18_0 mw_18_1 9 rfl rfl [9, 1, 2] [0, 3, 4, 5, 6, 7, 8, 10, 11, 12, 13, 14] rfl (wr := [cO_rirrrrrrirrr r0 6 w0 ro r_doors r_openingWalls r_froms r_tos r_lowers r_uppers rs r_standWalls r_standXs r_standYs, cA Z r_doors 2 8 Rd, cA Z r_openingWalls 0 8 Rw, cA Z r_froms 0 8 Rf, cA Z r_tos 0 8 Rt, cA Z r_lowers 0 8 Rl, cA Z r_uppers 0 8 Ru, cA Z w_lengths 0 8 Wl, cO_rri e0 4 t0 r0 ((((to0 + 1) + 1) + 1) + 1), cO_riirrr t0 9 t_bytes ts tk t_kinds t_places t_values, cA Z t_kinds 0 401 Tk, cA Z t_values 0 401 Tv]) rfl (by decide) rfl rfl (Nat.le_of_ble_eq_true rfl) (by decide) dX4_readDoor_102 (fun r w' hpo => ?_)
        obtain ⟨rfl, rfl, hf102_fb⟩ := hpo
        refine g_as (pc' := 105) (lv' := [(3, .int (iI (aV (((to0 + 1) + 1) + 1).toNat))), (2, .int (iI (aV ((to0 + 1) + 1).toNat))), (1, .int (iI (aV (to0 + 1).toNat))), (0, .ref e0)]) (st' := [.int (iI (les Wh Wk (aV (to0 + 1).toNat))), .int (iI 50), .ref e0]) (ws' := [cO_rirrrrrrirrr r0 6 w0 ro r_doors r_openingWalls r_froms r_tos r_lowers r_uppers rs r_standWalls r_standXs r_standYs, cA Z r_doors 2 8 Rd, cA Z r_openingWalls 0 8 Rw, cA Z r_froms 0 8 Rf, cA Z r_tos 0 8 Rt, cA Z r_lowers 0 8 Rl, cA Z r_uppers 0 8 Ru, cA Z w_lengths 0 8 Wl, cO_rri e0 4 t0 r0 ((((to0 + 1) + 1) + 1) + 1), cO_riirrr t0 9 t_bytes ts tk t_kinds t_places t_values, cA Z t_kinds 0 401 Tk, cA Z t_values 0 401 Tv, cO_rrrrrrii w0 10 w_begins w_lengths w_lefts w_rights w_leans w_leaning wn wr, cA Z w_lefts 0 8 Wh, cA Z w_rights 0 8 Wk]) rfl rfl rfl rfl ?_
        refine g_iconst (pc := 105) X (iI 1) (by rfl) dX4_readDoor_105 ?_
        refine g_isubI (pc := 106) X dX4_readDoor_106 ?_
        refine g_callV (pc := 107) X (kx_X4_readNumber l Z e0 t0 r0 t_bytes t_kinds t_places t_values aK aV Tk Tv 50 ((les Wh Wk (aV (to0 + 1).toNat)) - 1) ((((to0 + 1) + 1) + 1) + 1) ts tk (by decide) (by omega) (by omega) b_ts b_tk (hK) (hV) (hO) (by omega) (h_Tk) (h_Tv)) iM_X4_readNumber mw_16_22 mw_16_23 mw_17_0 8 rfl rfl [8, 9, 10, 11] [0, 1, 2, 3, 4, 5, 6, 7, 12, 13, 14] rfl (wr := [cO_rirrrrrrirrr r0 6 w0 ro r_doors r_openingWalls r_froms r_tos r_lowers r_uppers rs r_standWalls r_standXs r_standYs, cA Z r_doors 2 8 Rd, cA Z r_openingWalls 0 8 Rw, cA Z r_froms 0 8 Rf, cA Z r_tos 0 8 Rt, cA Z r_lowers 0 8 Rl, cA Z r_uppers 0 8 Ru, cA Z w_lengths 0 8 Wl, cO_rrrrrrii w0 10 w_begins w_lengths w_lefts w_rights w_leans w_leaning wn wr, cA Z w_lefts 0 8 Wh, cA Z w_rights 0 8 Wk]) rfl (by decide) rfl rfl (Nat.le_of_ble_eq_true rfl) (by decide) dX4_readDoor_107 (fun r w' hpo => ?_)
        rcases hpo with hp0 | hp1
        · obtain ⟨rfl, rfl, hf107_f1⟩ := hp0
          refine g_as (pc' := 110) (lv' := [(3, .int (iI (aV (((to0 + 1) + 1) + 1).toNat))), (2, .int (iI (aV ((to0 + 1) + 1).toNat))), (1, .int (iI (aV (to0 + 1).toNat))), (0, .ref e0)]) (st' := [.int (iI (-1))]) (ws' := [cO_rirrrrrrirrr r0 6 w0 ro r_doors r_openingWalls r_froms r_tos r_lowers r_uppers rs r_standWalls r_standXs r_standYs, cA Z r_doors 2 8 Rd, cA Z r_openingWalls 0 8 Rw, cA Z r_froms 0 8 Rf, cA Z r_tos 0 8 Rt, cA Z r_lowers 0 8 Rl, cA Z r_uppers 0 8 Ru, cA Z w_lengths 0 8 Wl, cO_rrrrrrii w0 10 w_begins w_lengths w_lefts w_rights w_leans w_leaning wn wr, cA Z w_lefts 0 8 Wh, cA Z w_rights 0 8 Wk, cO_rri e0 4 t0 r0 ((((to0 + 1) + 1) + 1) + 1), cO_riirrr t0 9 t_bytes ts tk t_kinds t_places t_values, cA Z t_kinds 0 401 Tk, cA Z t_values 0 401 Tv]) rfl rfl rfl rfl ?_
          refine g_istore (pc := 110) X (by decide) (lv' := [(4, .int (iI (-1))), (3, .int (iI (aV (((to0 + 1) + 1) + 1).toNat))), (2, .int (iI (aV ((to0 + 1) + 1).toNat))), (1, .int (iI (aV (to0 + 1).toNat))), (0, .ref e0)]) rfl dX4_readDoor_110 ?_
          refine g_iload (pc := 112) X 0 rfl dX4_readDoor_112 ?_
          refine g_iconst (pc := 114) X (iI (-1)) (by rfl) dX4_readDoor_114 ?_
          refine g_icmp_eqI (pc := 115) X 127 (by decide) ⟨by decide, by decide⟩ ⟨by decide, by decide⟩ dX4_readDoor_115 (fun _ => ?_) (fun h => absurd h (by decide))
          refine g_iconst (pc := 127) X (iI 0) (by rfl) dX4_readDoor_127 ?_
          refine g_ws (ws' := [cO_rri e0 4 t0 r0 ((((to0 + 1) + 1) + 1) + 1), cO_riirrr t0 9 t_bytes ts tk t_kinds t_places t_values, cA Z t_kinds 0 401 Tk, cA Z t_values 0 401 Tv, cO_rirrrrrrirrr r0 6 w0 ro r_doors r_openingWalls r_froms r_tos r_lowers r_uppers rs r_standWalls r_standXs r_standYs, cO_rrrrrrii w0 10 w_begins w_lengths w_lefts w_rights w_leans w_leaning wn wr, cA Z w_lengths 0 8 Wl, cA Z w_lefts 0 8 Wh, cA Z w_rights 0 8 Wk, cA Z r_doors 2 8 Rd, cA Z r_openingWalls 0 8 Rw, cA Z r_froms 0 8 Rf, cA Z r_tos 0 8 Rt, cA Z r_lowers 0 8 Rl, cA Z r_uppers 0 8 Ru]) [11, 12, 13, 14, 0, 8, 7, 9, 10, 1, 2, 3, 4, 5, 6] (by decide) rfl ?_
          exact g_zret (pc := 128) X hA (rfl) (⟨Rd, Rw, Rf, Rt, Rl, Ru, ((((to0 + 1) + 1) + 1) + 1), ro, 0, rfl, rfl, (by omega), (b_ro), (by omega), (h_Rd), (h_Rw), (h_Rf), (h_Rt), (h_Rl), (h_Ru), (by omega), (by omega), (by omega), (by have q := doC_4 (K := aK) (V := aV) (t := to0) (nw := wn) (L := Wl) (H := Wh) (Q := Wk) (by omega) (by omega) (by omega) (by omega); omega), (fun h => absurd h (by decide)), (fun h => absurd h (by decide)), (fun h => absurd h (by decide)), (fun h => absurd h (by decide)), (fun h => absurd h (by decide)), (fun h => absurd h (by decide)), (fun h => absurd h (by decide))⟩) (by decide) (by decide) dX4_readDoor_128
        · refine anD_5 hp1 fun e_r e_w hf107_f1 hf107_f3 hf107_fb => ?_; clear hp1; subst e_r; subst e_w
          refine g_as (pc' := 110) (lv' := [(3, .int (iI (aV (((to0 + 1) + 1) + 1).toNat))), (2, .int (iI (aV ((to0 + 1) + 1).toNat))), (1, .int (iI (aV (to0 + 1).toNat))), (0, .ref e0)]) (st' := [.int (iI (aV ((((to0 + 1) + 1) + 1) + 1).toNat))]) (ws' := [cO_rirrrrrrirrr r0 6 w0 ro r_doors r_openingWalls r_froms r_tos r_lowers r_uppers rs r_standWalls r_standXs r_standYs, cA Z r_doors 2 8 Rd, cA Z r_openingWalls 0 8 Rw, cA Z r_froms 0 8 Rf, cA Z r_tos 0 8 Rt, cA Z r_lowers 0 8 Rl, cA Z r_uppers 0 8 Ru, cA Z w_lengths 0 8 Wl, cO_rrrrrrii w0 10 w_begins w_lengths w_lefts w_rights w_leans w_leaning wn wr, cA Z w_lefts 0 8 Wh, cA Z w_rights 0 8 Wk, cO_rri e0 4 t0 r0 (((((to0 + 1) + 1) + 1) + 1) + 1), cO_riirrr t0 9 t_bytes ts tk t_kinds t_places t_values, cA Z t_kinds 0 401 Tk, cA Z t_values 0 401 Tv]) rfl rfl rfl rfl ?_
          have tt15 : 0 ≤ aV ((((to0 + 1) + 1) + 1) + 1).toNat ∧ aV ((((to0 + 1) + 1) + 1) + 1).toNat ≤ 400 := by omega
          refine g_istore (pc := 110) X (by decide) (lv' := [(4, .int (iI (aV ((((to0 + 1) + 1) + 1) + 1).toNat))), (3, .int (iI (aV (((to0 + 1) + 1) + 1).toNat))), (2, .int (iI (aV ((to0 + 1) + 1).toNat))), (1, .int (iI (aV (to0 + 1).toNat))), (0, .ref e0)]) rfl dX4_readDoor_110 ?_
          refine g_iload (pc := 112) X 0 rfl dX4_readDoor_112 ?_
          refine g_iconst (pc := 114) X (iI (-1)) (by rfl) dX4_readDoor_114 ?_
          refine g_icmp_eqI (pc := 115) X 127 (by decide) ⟨by omega, by omega⟩ ⟨by decide, by decide⟩ dX4_readDoor_115 (fun h => absurd h (by omega)) (fun c115 => ?_)
          refine g_aload_n (pc := 118) X 4 rfl dX4_readDoor_118 ?_
          refine g_bipush (pc := 119) X (iI 8) (by decide) dX4_readDoor_119 ?_
          refine g_callV (pc := 121) X (kx_X4_readSign l Z e0 t0 r0 t_bytes t_kinds t_places t_values aK aV Tk 8 (((((to0 + 1) + 1) + 1) + 1) + 1) ts tk (by decide) (by omega) b_ts b_tk (hK) (hO) (by omega) (by omega) (h_Tk)) iM_X4_readSign mw_17_3 mw_17_4 mw_17_5 11 rfl rfl [11, 12, 13] [0, 1, 2, 3, 4, 5, 6, 7, 8, 9, 10, 14] rfl (wr := [cO_rirrrrrrirrr r0 6 w0 ro r_doors r_openingWalls r_froms r_tos r_lowers r_uppers rs r_standWalls r_standXs r_standYs, cA Z r_doors 2 8 Rd, cA Z r_openingWalls 0 8 Rw, cA Z r_froms 0 8 Rf, cA Z r_tos 0 8 Rt, cA Z r_lowers 0 8 Rl, cA Z r_uppers 0 8 Ru, cA Z w_lengths 0 8 Wl, cO_rrrrrrii w0 10 w_begins w_lengths w_lefts w_rights w_leans w_leaning wn wr, cA Z w_lefts 0 8 Wh, cA Z w_rights 0 8 Wk, cA Z t_values 0 401 Tv]) rfl (by decide) rfl rfl (Nat.le_of_ble_eq_true rfl) (by decide) dX4_readDoor_121 (fun r w' hpo => ?_)
          rcases hpo with hp0 | hp1
          · obtain ⟨rfl, rfl, hf121_f1⟩ := hp0
            refine g_as (pc' := 124) (lv' := [(4, .int (iI (aV ((((to0 + 1) + 1) + 1) + 1).toNat))), (3, .int (iI (aV (((to0 + 1) + 1) + 1).toNat))), (2, .int (iI (aV ((to0 + 1) + 1).toNat))), (1, .int (iI (aV (to0 + 1).toNat))), (0, .ref e0)]) (st' := [.int (iI 0)]) (ws' := [cO_rirrrrrrirrr r0 6 w0 ro r_doors r_openingWalls r_froms r_tos r_lowers r_uppers rs r_standWalls r_standXs r_standYs, cA Z r_doors 2 8 Rd, cA Z r_openingWalls 0 8 Rw, cA Z r_froms 0 8 Rf, cA Z r_tos 0 8 Rt, cA Z r_lowers 0 8 Rl, cA Z r_uppers 0 8 Ru, cA Z w_lengths 0 8 Wl, cO_rrrrrrii w0 10 w_begins w_lengths w_lefts w_rights w_leans w_leaning wn wr, cA Z w_lefts 0 8 Wh, cA Z w_rights 0 8 Wk, cA Z t_values 0 401 Tv, cO_rri e0 4 t0 r0 (((((to0 + 1) + 1) + 1) + 1) + 1), cO_riirrr t0 9 t_bytes ts tk t_kinds t_places t_values, cA Z t_kinds 0 401 Tk]) rfl rfl rfl rfl ?_
            refine g_if_neI (pc := 124) X 129 (by decide) ⟨by decide, by decide⟩ dX4_readDoor_124 (fun h => absurd h (by decide)) (fun _ => ?_)
            refine g_iconst (pc := 127) X (iI 0) (by rfl) dX4_readDoor_127 ?_
            refine g_ws (ws' := [cO_rri e0 4 t0 r0 (((((to0 + 1) + 1) + 1) + 1) + 1), cO_riirrr t0 9 t_bytes ts tk t_kinds t_places t_values, cA Z t_kinds 0 401 Tk, cA Z t_values 0 401 Tv, cO_rirrrrrrirrr r0 6 w0 ro r_doors r_openingWalls r_froms r_tos r_lowers r_uppers rs r_standWalls r_standXs r_standYs, cO_rrrrrrii w0 10 w_begins w_lengths w_lefts w_rights w_leans w_leaning wn wr, cA Z w_lengths 0 8 Wl, cA Z w_lefts 0 8 Wh, cA Z w_rights 0 8 Wk, cA Z r_doors 2 8 Rd, cA Z r_openingWalls 0 8 Rw, cA Z r_froms 0 8 Rf, cA Z r_tos 0 8 Rt, cA Z r_lowers 0 8 Rl, cA Z r_uppers 0 8 Ru]) [12, 13, 14, 11, 0, 8, 7, 9, 10, 1, 2, 3, 4, 5, 6] (by decide) rfl ?_
            exact g_zret (pc := 128) X hA (rfl) (⟨Rd, Rw, Rf, Rt, Rl, Ru, (((((to0 + 1) + 1) + 1) + 1) + 1), ro, 0, rfl, rfl, (by omega), (b_ro), (by omega), (h_Rd), (h_Rw), (h_Rf), (h_Rt), (h_Rl), (h_Ru), (by omega), (by omega), (by omega), (by have q := doC_5 (K := aK) (V := aV) (t := to0) (nw := wn) (L := Wl) (H := Wh) (Q := Wk) (by omega) (by omega) (by omega) (by omega) (by omega); omega), (fun h => absurd h (by decide)), (fun h => absurd h (by decide)), (fun h => absurd h (by decide)), (fun h => absurd h (by decide)), (fun h => absurd h (by decide)), (fun h => absurd h (by decide)), (fun h => absurd h (by decide))⟩) (by decide) (by decide) dX4_readDoor_128
          · refine anD_4 hp1 fun e_r e_w hf121_f1 hf121_f3 => ?_; clear hp1; subst e_r; subst e_w
            refine g_as (pc' := 124) (lv' := [(4, .int (iI (aV ((((to0 + 1) + 1) + 1) + 1).toNat))), (3, .int (iI (aV (((to0 + 1) + 1) + 1).toNat))), (2, .int (iI (aV ((to0 + 1) + 1).toNat))), (1, .int (iI (aV (to0 + 1).toNat))), (0, .ref e0)]) (st' := [.int (iI 1)]) (ws' := [cO_rirrrrrrirrr r0 6 w0 ro r_doors r_openingWalls r_froms r_tos r_lowers r_uppers rs r_standWalls r_standXs r_standYs, cA Z r_doors 2 8 Rd, cA Z r_openingWalls 0 8 Rw, cA Z r_froms 0 8 Rf, cA Z r_tos 0 8 Rt, cA Z r_lowers 0 8 Rl, cA Z r_uppers 0 8 Ru, cA Z w_lengths 0 8 Wl, cO_rrrrrrii w0 10 w_begins w_lengths w_lefts w_rights w_leans w_leaning wn wr, cA Z w_lefts 0 8 Wh, cA Z w_rights 0 8 Wk, cA Z t_values 0 401 Tv, cO_rri e0 4 t0 r0 ((((((to0 + 1) + 1) + 1) + 1) + 1) + 1), cO_riirrr t0 9 t_bytes ts tk t_kinds t_places t_values, cA Z t_kinds 0 401 Tk]) rfl rfl rfl rfl ?_
            refine g_if_neI (pc := 124) X 129 (by decide) ⟨by decide, by decide⟩ dX4_readDoor_124 (fun _ => ?_) (fun h => absurd h (by decide))
            refine g_aload_n (pc := 129) X 4 rfl dX4_readDoor_129 ?_
            refine g_get (pc := 130) X inlX4 12 rfl rfl 1 (by decide) mw_12_1 rfl dX4_readDoor_130 ?_
            refine g_iconst (pc := 133) X (iI 1) (by rfl) dX4_readDoor_133 ?_
            refine g_iload_n (pc := 134) X 3 rfl dX4_readDoor_134 ?_
            refine g_iload_n (pc := 135) X 2 rfl dX4_readDoor_135 ?_
            refine g_iload_n (pc := 136) X 1 rfl dX4_readDoor_136 ?_
            refine g_iconst (pc := 137) X (iI 0) (by rfl) dX4_readDoor_137 ?_
            refine g_iload (pc := 138) X 0 rfl dX4_readDoor_138 ?_
            refine g_callV (pc := 140) X (kx_X6_addOpening l Z r0 w0 r_doors r_openingWalls r_froms r_tos r_lowers r_uppers r_standWalls r_standXs r_standYs Rd Rw Rf Rt Rl Ru 1 (aV (to0 + 1).toNat) (aV ((to0 + 1) + 1).toNat) (aV (((to0 + 1) + 1) + 1).toNat) 0 (aV ((((to0 + 1) + 1) + 1) + 1).toNat) ro rs (by decide) (by omega) (by omega) (by omega) (by decide) (by omega) b_ro b_rs (by omega) (h_Rd) (h_Rw) (h_Rf) (h_Rt) (h_Rl) (h_Ru)) iM_X6_addOpening mw_18_4 mw_18_5 mw_18_6 0 rfl rfl [0, 1, 2, 3, 4, 5, 6] [7, 8, 9, 10, 11, 12, 13, 14] rfl (wr := [cA Z w_lengths 0 8 Wl, cO_rrrrrrii w0 10 w_begins w_lengths w_lefts w_rights w_leans w_leaning wn wr, cA Z w_lefts 0 8 Wh, cA Z w_rights 0 8 Wk, cA Z t_values 0 401 Tv, cO_rri e0 4 t0 r0 ((((((to0 + 1) + 1) + 1) + 1) + 1) + 1), cO_riirrr t0 9 t_bytes ts tk t_kinds t_places t_values, cA Z t_kinds 0 401 Tk]) rfl (by decide) rfl rfl (Nat.le_of_ble_eq_true rfl) (by decide) dX4_readDoor_140 (fun r w' hpo => ?_)
            refine exN_7 hpo fun F18 F19 F20 F21 F22 F23 y24 hz => anD_16 hz fun e_r e_w hf140_b_ro2 hf140_h_Rd2 hf140_h_Rw2 hf140_h_Rf2 hf140_h_Rt2 hf140_h_Rl2 hf140_h_Ru2 hf140_f1 hf140_e0 hf140_e1 hf140_e2 hf140_e3 hf140_e4 hf140_e5 => ?_; clear hz hpo; subst e_r; subst e_w
            refine g_as (pc' := 143) (lv' := [(4, .int (iI (aV ((((to0 + 1) + 1) + 1) + 1).toNat))), (3, .int (iI (aV (((to0 + 1) + 1) + 1).toNat))), (2, .int (iI (aV ((to0 + 1) + 1).toNat))), (1, .int (iI (aV (to0 + 1).toNat))), (0, .ref e0)]) (st' := []) (ws' := [cA Z w_lengths 0 8 Wl, cO_rrrrrrii w0 10 w_begins w_lengths w_lefts w_rights w_leans w_leaning wn wr, cA Z w_lefts 0 8 Wh, cA Z w_rights 0 8 Wk, cA Z t_values 0 401 Tv, cO_rri e0 4 t0 r0 ((((((to0 + 1) + 1) + 1) + 1) + 1) + 1), cO_riirrr t0 9 t_bytes ts tk t_kinds t_places t_values, cA Z t_kinds 0 401 Tk, cO_rirrrrrrirrr r0 6 w0 y24 r_doors r_openingWalls r_froms r_tos r_lowers r_uppers rs r_standWalls r_standXs r_standYs, cA Z r_doors 2 8 F18, cA Z r_openingWalls 0 8 F19, cA Z r_froms 0 8 F20, cA Z r_tos 0 8 F21, cA Z r_lowers 0 8 F22, cA Z r_uppers 0 8 F23]) rfl rfl rfl rfl ?_
            refine g_iconst (pc := 143) X (iI 1) (by rfl) dX4_readDoor_143 ?_
            refine g_ws (ws' := [cO_rri e0 4 t0 r0 ((((((to0 + 1) + 1) + 1) + 1) + 1) + 1), cO_riirrr t0 9 t_bytes ts tk t_kinds t_places t_values, cA Z t_kinds 0 401 Tk, cA Z t_values 0 401 Tv, cO_rirrrrrrirrr r0 6 w0 y24 r_doors r_openingWalls r_froms r_tos r_lowers r_uppers rs r_standWalls r_standXs r_standYs, cO_rrrrrrii w0 10 w_begins w_lengths w_lefts w_rights w_leans w_leaning wn wr, cA Z w_lengths 0 8 Wl, cA Z w_lefts 0 8 Wh, cA Z w_rights 0 8 Wk, cA Z r_doors 2 8 F18, cA Z r_openingWalls 0 8 F19, cA Z r_froms 0 8 F20, cA Z r_tos 0 8 F21, cA Z r_lowers 0 8 F22, cA Z r_uppers 0 8 F23]) [5, 6, 7, 4, 8, 1, 0, 2, 3, 9, 10, 11, 12, 13, 14] (by decide) rfl ?_
            exact g_zret (pc := 144) X hA (rfl) (⟨F18, F19, F20, F21, F22, F23, ((((((to0 + 1) + 1) + 1) + 1) + 1) + 1), y24, 1, rfl, rfl, (by omega), (hf140_b_ro2), (by omega), (hf140_h_Rd2), (hf140_h_Rw2), (hf140_h_Rf2), (hf140_h_Rt2), (hf140_h_Rl2), (hf140_h_Ru2), (by omega), (by omega), (by omega), (by have q := doC_ok (K := aK) (V := aV) (t := to0) (nw := wn) (L := Wl) (H := Wh) (Q := Wk) (by omega) (by omega) (by omega) (by omega) (by omega); omega), (fun _ => hf140_f1), (fun _ => hf140_e0), (fun _ => hf140_e1), (fun _ => hf140_e2), (fun _ => hf140_e3), (fun _ => hf140_e4), (fun _ => hf140_e5)⟩) (by decide) (by decide) dX4_readDoor_144

set_option maxHeartbeats 4000000 in
set_option maxRecDepth 100000 in
theorem kx_X4_readWindow (l : Launch) (Z : gZ) (e0 : Nat) (t0 : Nat) (r0 : Nat) (t_bytes : Nat) (t_kinds : Nat) (t_places : Nat) (t_values : Nat) (w0 : Nat) (r_doors : Nat) (r_openingWalls : Nat) (r_froms : Nat) (r_tos : Nat) (r_lowers : Nat) (r_uppers : Nat) (r_standWalls : Nat) (r_standXs : Nat) (r_standYs : Nat) (w_begins : Nat) (w_lengths : Nat) (w_lefts : Nat) (w_rights : Nat) (w_leans : Nat) (w_leaning : Nat) (aK : Nat → Int) (aV : Nat → Int) (Tk : Nat → Int) (Tv : Nat → Int) (Wl : Nat → Int) (Wh : Nat → Int) (Wk : Nat → Int) (Rd : Nat → Int) (Rw : Nat → Int) (Rf : Nat → Int) (Rt : Nat → Int) (Rl : Nat → Int) (Ru : Nat → Int) (to0 : Int) (ts : Int) (tk : Int) (ro : Int) (rs : Int) (wn : Int) (wr : Int) (b_to0 : 0 ≤ to0 ∧ to0 ≤ 401) (b_ts : 0 ≤ ts ∧ ts ≤ 400) (b_tk : 0 ≤ tk ∧ tk ≤ 401) (b_ro : 0 ≤ ro ∧ ro ≤ 8) (b_rs : 0 ≤ rs ∧ rs ≤ 4) (b_wn : 0 ≤ wn ∧ wn ≤ 8) (b_wr : 0 ≤ wr ∧ wr ≤ 4800) (hK : ∀ j : Nat, (j : Int) < tk → Tk j = aK j) (hV : ∀ j : Nat, (j : Int) < tk → Tv j = aV j) (hO : ∀ j : Nat, (j : Int) < tk → aK j ≠ 10 → (j : Int) + 1 < tk) (hn : to0 < tk) (hk : aK to0.toNat ≠ 10) (h8 : ro < 8) (h_Tk : ∀ j, j < 401 → 0 ≤ Tk j ∧ Tk j ≤ 10) (h_Tv : ∀ j, j < 401 → 0 ≤ Tv j ∧ Tv j ≤ 100000) (h_Wl : ∀ j, j < 8 → 0 ≤ Wl j ∧ Wl j ≤ 600) (h_Wh : ∀ j, j < 8 → 0 ≤ Wh j ∧ Wh j ≤ 400) (h_Wk : ∀ j, j < 8 → 0 ≤ Wk j ∧ Wk j ≤ 400) (h_Rd : ∀ j, j < 8 → 0 ≤ Rd j ∧ Rd j ≤ 1) (h_Rw : ∀ j, j < 8 → 0 ≤ Rw j ∧ Rw j ≤ 7) (h_Rf : ∀ j, j < 8 → 0 ≤ Rf j ∧ Rf j ≤ 600) (h_Rt : ∀ j, j < 8 → 0 ≤ Rt j ∧ Rt j ≤ 600) (h_Rl : ∀ j, j < 8 → 0 ≤ Rl j ∧ Rl j ≤ 400) (h_Ru : ∀ j, j < 8 → 0 ≤ Ru j ∧ Ru j ≤ 400) : Con l Z yX4_readWindow cX4_readWindow 6 (some .boolean) 2 45 0 0 [.ref e0] [cO_rri e0 4 t0 r0 to0, cO_riirrr t0 9 t_bytes ts tk t_kinds t_places t_values, cA Z t_kinds 0 401 Tk, cA Z t_values 0 401 Tv, cO_rirrrrrrirrr r0 6 w0 ro r_doors r_openingWalls r_froms r_tos r_lowers r_uppers rs r_standWalls r_standXs r_standYs, cO_rrrrrrii w0 10 w_begins w_lengths w_lefts w_rights w_leans w_leaning wn wr, cA Z w_lengths 0 8 Wl, cA Z w_lefts 0 8 Wh, cA Z w_rights 0 8 Wk, cA Z r_doors 2 8 Rd, cA Z r_openingWalls 0 8 Rw, cA Z r_froms 0 8 Rf, cA Z r_tos 0 8 Rt, cA Z r_lowers 0 8 Rl, cA Z r_uppers 0 8 Ru] (fun r w' => ∃ (Rd2 : Nat → Int) (Rw2 : Nat → Int) (Rf2 : Nat → Int) (Rt2 : Nat → Int) (Rl2 : Nat → Int) (Ru2 : Nat → Int) (to2 : Int) (ro2 : Int) (y : Int), (r = some (.int (iI y))) ∧ (w' = [cO_rri e0 4 t0 r0 to2, cO_riirrr t0 9 t_bytes ts tk t_kinds t_places t_values, cA Z t_kinds 0 401 Tk, cA Z t_values 0 401 Tv, cO_rirrrrrrirrr r0 6 w0 ro2 r_doors r_openingWalls r_froms r_tos r_lowers r_uppers rs r_standWalls r_standXs r_standYs, cO_rrrrrrii w0 10 w_begins w_lengths w_lefts w_rights w_leans w_leaning wn wr, cA Z w_lengths 0 8 Wl, cA Z w_lefts 0 8 Wh, cA Z w_rights 0 8 Wk, cA Z r_doors 2 8 Rd2, cA Z r_openingWalls 0 8 Rw2, cA Z r_froms 0 8 Rf2, cA Z r_tos 0 8 Rt2, cA Z r_lowers 0 8 Rl2, cA Z r_uppers 0 8 Ru2]) ∧ (0 ≤ to2 ∧ to2 ≤ 401) ∧ (0 ≤ ro2 ∧ ro2 ≤ 8) ∧ (0 ≤ y ∧ y ≤ 1) ∧ (∀ j, j < 8 → 0 ≤ Rd2 j ∧ Rd2 j ≤ 1) ∧ (∀ j, j < 8 → 0 ≤ Rw2 j ∧ Rw2 j ≤ 7) ∧ (∀ j, j < 8 → 0 ≤ Rf2 j ∧ Rf2 j ≤ 600) ∧ (∀ j, j < 8 → 0 ≤ Rt2 j ∧ Rt2 j ≤ 600) ∧ (∀ j, j < 8 → 0 ≤ Rl2 j ∧ Rl2 j ≤ 400) ∧ (∀ j, j < 8 → 0 ≤ Ru2 j ∧ Ru2 j ≤ 400) ∧ (to2 < tk) ∧ (to0 < to2) ∧ (y = 1 → to0 + 2 ≤ to2) ∧ ((y = 1 ∧ wiC aK aV wn Wl Wh Wk to0 = -1 - to2) ∨ (y = 0 ∧ wiC aK aV wn Wl Wh Wk to0 = to2)) ∧ (y = 1 → ro2 = ro + 1) ∧ (y = 1 → Rd2 = updI Rd ro.toNat 0) ∧ (y = 1 → Rw2 = updI Rw ro.toNat (aV (to0 + 1).toNat)) ∧ (y = 1 → Rf2 = updI Rf ro.toNat (aV (to0 + 1 + 1).toNat)) ∧ (y = 1 → Rt2 = updI Rt ro.toNat (aV (to0 + 1 + 1 + 1).toNat)) ∧ (y = 1 → Rl2 = updI Rl ro.toNat (aV (to0 + 1 + 1 + 1 + 1).toNat)) ∧ (y = 1 → Ru2 = updI Ru ro.toNat (aV (to0 + 1 + 1 + 1 + 1 + 1).toNat))) := by
  refine enter (by decide) (Nat.le_of_ble_eq_true rfl) ?_
  intro p e s m args below meth c A X hnm hA
  have X : Cx p s m args meth c cX4_readWindow 6 (some .boolean) RX4 Z A := X
  refine g_as (pc' := 0) (lv' := [(0, .ref e0)]) (st' := []) (ws' := [cO_rri e0 4 t0 r0 to0, cO_riirrr t0 9 t_bytes ts tk t_kinds t_places t_values, cA Z t_kinds 0 401 Tk, cA Z t_values 0 401 Tv, cO_rirrrrrrirrr r0 6 w0 ro r_doors r_openingWalls r_froms r_tos r_lowers r_uppers rs r_standWalls r_standXs r_standYs, cO_rrrrrrii w0 10 w_begins w_lengths w_lefts w_rights w_leans w_leaning wn wr, cA Z w_lengths 0 8 Wl, cA Z w_lefts 0 8 Wh, cA Z w_rights 0 8 Wk, cA Z r_doors 2 8 Rd, cA Z r_openingWalls 0 8 Rw, cA Z r_froms 0 8 Rf, cA Z r_tos 0 8 Rt, cA Z r_lowers 0 8 Rl, cA Z r_uppers 0 8 Ru]) rfl rfl rfl rfl ?_
  have qo := hO to0.toNat (by omega) hk
  refine g_aload_n (pc := 0) X 0 rfl dX4_readWindow_0 ?_
  refine g_dup (pc := 1) X rfl dX4_readWindow_1 ?_
  refine g_get (pc := 2) X inlX4 0 rfl rfl 2 (by decide) mw_12_0 rfl dX4_readWindow_2 ?_
  refine g_iconst (pc := 5) X (iI 1) (by rfl) dX4_readWindow_5 ?_
  refine g_iaddI (pc := 6) X dX4_readWindow_6 ?_
  refine g_put (pc := 7) X inlX4 tyX4_ok nmX4 0 rfl rfl 2 (by decide) mw_12_0 rfl rfl rfl (Nat.le_of_ble_eq_true rfl) (ws' := [cO_rri e0 4 t0 r0 (to0 + 1), cO_riirrr t0 9 t_bytes ts tk t_kinds t_places t_values, cA Z t_kinds 0 401 Tk, cA Z t_values 0 401 Tv, cO_rirrrrrrirrr r0 6 w0 ro r_doors r_openingWalls r_froms r_tos r_lowers r_uppers rs r_standWalls r_standXs r_standYs, cO_rrrrrrii w0 10 w_begins w_lengths w_lefts w_rights w_leans w_leaning wn wr, cA Z w_lengths 0 8 Wl, cA Z w_lefts 0 8 Wh, cA Z w_rights 0 8 Wk, cA Z r_doors 2 8 Rd, cA Z r_openingWalls 0 8 Rw, cA Z r_froms 0 8 Rf, cA Z r_tos 0 8 Rt, cA Z r_lowers 0 8 Rl, cA Z r_uppers 0 8 Ru]) rfl dX4_readWindow_7 ?_
  refine g_aload_n (pc := 10) X 0 rfl dX4_readWindow_10 ?_
  refine g_iconst (pc := 11) X (iI 0) (by rfl) dX4_readWindow_11 ?_
  refine g_aload_n (pc := 12) X 0 rfl dX4_readWindow_12 ?_
  refine g_get (pc := 13) X inlX4 0 rfl rfl 1 (by decide) mw_12_1 rfl dX4_readWindow_13 ?_
  refine g_get (pc := 16) X inlX6 4 rfl rfl 0 (by decide) mw_12_2 rfl dX4_readWindow_16 ?_
  refine g_get (pc := 19) X inlX10 5 rfl rfl 6 (by decide) mw_12_3 rfl dX4_readWindow_19 ?_
  refine g_iconst (pc := 22) X (iI 1) (by rfl) dX4_readWindow_22 ?_
  refine g_isubI (pc := 23) X dX4_readWindow_23 ?_
  refine g_callV (pc := 24) X (kx_X4_readNumber l Z e0 t0 r0 t_bytes t_kinds t_places t_values aK aV Tk Tv 0 (wn - 1) (to0 + 1) ts tk (by decide) (by omega) (by omega) b_ts b_tk (hK) (hV) (hO) (by omega) (h_Tk) (h_Tv)) iM_X4_readNumber mw_16_22 mw_16_23 mw_17_0 0 rfl rfl [0, 1, 2, 3] [4, 5, 6, 7, 8, 9, 10, 11, 12, 13, 14] rfl (wr := [cO_rirrrrrrirrr r0 6 w0 ro r_doors r_openingWalls r_froms r_tos r_lowers r_uppers rs r_standWalls r_standXs r_standYs, cO_rrrrrrii w0 10 w_begins w_lengths w_lefts w_rights w_leans w_leaning wn wr, cA Z w_lengths 0 8 Wl, cA Z w_lefts 0 8 Wh, cA Z w_rights 0 8 Wk, cA Z r_doors 2 8 Rd, cA Z r_openingWalls 0 8 Rw, cA Z r_froms 0 8 Rf, cA Z r_tos 0 8 Rt, cA Z r_lowers 0 8 Rl, cA Z r_uppers 0 8 Ru]) rfl (by decide) rfl rfl (Nat.le_of_ble_eq_true rfl) (by decide) dX4_readWindow_24 (fun r w' hpo => ?_)
  rcases hpo with hp0 | hp1
  · obtain ⟨rfl, rfl, hf24_f1⟩ := hp0
    refine g_as (pc' := 27) (lv' := [(0, .ref e0)]) (st' := [.int (iI (-1))]) (ws' := [cO_rirrrrrrirrr r0 6 w0 ro r_doors r_openingWalls r_froms r_tos r_lowers r_uppers rs r_standWalls r_standXs r_standYs, cO_rrrrrrii w0 10 w_begins w_lengths w_lefts w_rights w_leans w_leaning wn wr, cA Z w_lengths 0 8 Wl, cA Z w_lefts 0 8 Wh, cA Z w_rights 0 8 Wk, cA Z r_doors 2 8 Rd, cA Z r_openingWalls 0 8 Rw, cA Z r_froms 0 8 Rf, cA Z r_tos 0 8 Rt, cA Z r_lowers 0 8 Rl, cA Z r_uppers 0 8 Ru, cO_rri e0 4 t0 r0 (to0 + 1), cO_riirrr t0 9 t_bytes ts tk t_kinds t_places t_values, cA Z t_kinds 0 401 Tk, cA Z t_values 0 401 Tv]) rfl rfl rfl rfl ?_
    refine g_istore_n (pc := 27) X (i := 1) rfl (by decide) (lv' := [(1, .int (iI (-1))), (0, .ref e0)]) rfl dX4_readWindow_27 ?_
    refine g_iload_n (pc := 28) X 0 rfl dX4_readWindow_28 ?_
    refine g_iconst (pc := 29) X (iI (-1)) (by rfl) dX4_readWindow_29 ?_
    refine g_icmp_neI (pc := 30) X 37 (by decide) ⟨by decide, by decide⟩ ⟨by decide, by decide⟩ dX4_readWindow_30 (fun h => absurd h (by decide)) (fun _ => ?_)
    refine g_iconst (pc := 33) X (iI (-1)) (by rfl) dX4_readWindow_33 ?_
    refine g_goto (pc := 34) X 53 (by decide) dX4_readWindow_34 ?_
    refine g_istore_n (pc := 53) X (i := 2) rfl (by decide) (lv' := [(2, .int (iI (-1))), (1, .int (iI (-1))), (0, .ref e0)]) rfl dX4_readWindow_53 ?_
    refine g_iload_n (pc := 54) X 0 rfl dX4_readWindow_54 ?_
    refine g_iconst (pc := 55) X (iI (-1)) (by rfl) dX4_readWindow_55 ?_
    refine g_icmp_neI (pc := 56) X 63 (by decide) ⟨by decide, by decide⟩ ⟨by decide, by decide⟩ dX4_readWindow_56 (fun h => absurd h (by decide)) (fun _ => ?_)
    refine g_iconst (pc := 59) X (iI (-1)) (by rfl) dX4_readWindow_59 ?_
    refine g_goto (pc := 60) X 81 (by decide) dX4_readWindow_60 ?_
    refine g_istore_n (pc := 81) X (i := 3) rfl (by decide) (lv' := [(3, .int (iI (-1))), (2, .int (iI (-1))), (1, .int (iI (-1))), (0, .ref e0)]) rfl dX4_readWindow_81 ?_
    refine g_iload_n (pc := 82) X 0 rfl dX4_readWindow_82 ?_
    refine g_iconst (pc := 83) X (iI (-1)) (by rfl) dX4_readWindow_83 ?_
    refine g_icmp_neI (pc := 84) X 91 (by decide) ⟨by decide, by decide⟩ ⟨by decide, by decide⟩ dX4_readWindow_84 (fun h => absurd h (by decide)) (fun _ => ?_)
    refine g_iconst (pc := 87) X (iI (-1)) (by rfl) dX4_readWindow_87 ?_
    refine g_goto (pc := 88) X 99 (by decide) dX4_readWindow_88 ?_
    refine g_istore (pc := 99) X (by decide) (lv' := [(4, .int (iI (-1))), (3, .int (iI (-1))), (2, .int (iI (-1))), (1, .int (iI (-1))), (0, .ref e0)]) rfl dX4_readWindow_99 ?_
    refine g_iload (pc := 101) X 0 rfl dX4_readWindow_101 ?_
    refine g_iconst (pc := 103) X (iI (-1)) (by rfl) dX4_readWindow_103 ?_
    refine g_icmp_neI (pc := 104) X 111 (by decide) ⟨by decide, by decide⟩ ⟨by decide, by decide⟩ dX4_readWindow_104 (fun h => absurd h (by decide)) (fun _ => ?_)
    refine g_iconst (pc := 107) X (iI (-1)) (by rfl) dX4_readWindow_107 ?_
    refine g_goto (pc := 108) X 132 (by decide) dX4_readWindow_108 ?_
    refine g_istore (pc := 132) X (by decide) (lv' := [(5, .int (iI (-1))), (4, .int (iI (-1))), (3, .int (iI (-1))), (2, .int (iI (-1))), (1, .int (iI (-1))), (0, .ref e0)]) rfl dX4_readWindow_132 ?_
    refine g_iload (pc := 134) X 0 rfl dX4_readWindow_134 ?_
    refine g_iconst (pc := 136) X (iI (-1)) (by rfl) dX4_readWindow_136 ?_
    refine g_icmp_eqI (pc := 137) X 149 (by decide) ⟨by decide, by decide⟩ ⟨by decide, by decide⟩ dX4_readWindow_137 (fun _ => ?_) (fun h => absurd h (by decide))
    refine g_iconst (pc := 149) X (iI 0) (by rfl) dX4_readWindow_149 ?_
    refine g_ws (ws' := [cO_rri e0 4 t0 r0 (to0 + 1), cO_riirrr t0 9 t_bytes ts tk t_kinds t_places t_values, cA Z t_kinds 0 401 Tk, cA Z t_values 0 401 Tv, cO_rirrrrrrirrr r0 6 w0 ro r_doors r_openingWalls r_froms r_tos r_lowers r_uppers rs r_standWalls r_standXs r_standYs, cO_rrrrrrii w0 10 w_begins w_lengths w_lefts w_rights w_leans w_leaning wn wr, cA Z w_lengths 0 8 Wl, cA Z w_lefts 0 8 Wh, cA Z w_rights 0 8 Wk, cA Z r_doors 2 8 Rd, cA Z r_openingWalls 0 8 Rw, cA Z r_froms 0 8 Rf, cA Z r_tos 0 8 Rt, cA Z r_lowers 0 8 Rl, cA Z r_uppers 0 8 Ru]) [11, 12, 13, 14, 0, 1, 2, 3, 4, 5, 6, 7, 8, 9, 10] (by decide) rfl ?_
    exact g_zret (pc := 150) X hA (rfl) (⟨Rd, Rw, Rf, Rt, Rl, Ru, (to0 + 1), ro, 0, rfl, rfl, (by omega), (b_ro), (by omega), (h_Rd), (h_Rw), (h_Rf), (h_Rt), (h_Rl), (h_Ru), (by omega), (by omega), (by omega), (by have q := wiC_1 (K := aK) (V := aV) (t := to0) (nw := wn) (L := Wl) (H := Wh) (Q := Wk) (by omega); omega), (fun h => absurd h (by decide)), (fun h => absurd h (by decide)), (fun h => absurd h (by decide)), (fun h => absurd h (by decide)), (fun h => absurd h (by decide)), (fun h => absurd h (by decide)), (fun h => absurd h (by decide))⟩) (by decide) (by decide) dX4_readWindow_150
  · refine anD_5 hp1 fun e_r e_w hf24_f1 hf24_f3 hf24_fb => ?_; clear hp1; subst e_r; subst e_w
    refine g_as (pc' := 27) (lv' := [(0, .ref e0)]) (st' := [.int (iI (aV (to0 + 1).toNat))]) (ws' := [cO_rirrrrrrirrr r0 6 w0 ro r_doors r_openingWalls r_froms r_tos r_lowers r_uppers rs r_standWalls r_standXs r_standYs, cO_rrrrrrii w0 10 w_begins w_lengths w_lefts w_rights w_leans w_leaning wn wr, cA Z w_lengths 0 8 Wl, cA Z w_lefts 0 8 Wh, cA Z w_rights 0 8 Wk, cA Z r_doors 2 8 Rd, cA Z r_openingWalls 0 8 Rw, cA Z r_froms 0 8 Rf, cA Z r_tos 0 8 Rt, cA Z r_lowers 0 8 Rl, cA Z r_uppers 0 8 Ru, cO_rri e0 4 t0 r0 ((to0 + 1) + 1), cO_riirrr t0 9 t_bytes ts tk t_kinds t_places t_values, cA Z t_kinds 0 401 Tk, cA Z t_values 0 401 Tv]) rfl rfl rfl rfl ?_
    have tt3 : 0 ≤ aV (to0 + 1).toNat ∧ aV (to0 + 1).toNat ≤ 7 := by omega
    refine g_istore_n (pc := 27) X (i := 1) rfl (by decide) (lv' := [(1, .int (iI (aV (to0 + 1).toNat))), (0, .ref e0)]) rfl dX4_readWindow_27 ?_
    refine g_iload_n (pc := 28) X 0 rfl dX4_readWindow_28 ?_
    refine g_iconst (pc := 29) X (iI (-1)) (by rfl) dX4_readWindow_29 ?_
    refine g_icmp_neI (pc := 30) X 37 (by decide) ⟨by omega, by omega⟩ ⟨by decide, by decide⟩ dX4_readWindow_30 (fun c30 => ?_) (fun h => absurd h (by omega))
    refine g_aload_n (pc := 37) X 1 rfl dX4_readWindow_37 ?_
    refine g_iconst (pc := 38) X (iI 0) (by rfl) dX4_readWindow_38 ?_
    refine g_aload_n (pc := 39) X 1 rfl dX4_readWindow_39 ?_
    refine g_get (pc := 40) X inlX4 11 rfl rfl 1 (by decide) mw_12_1 rfl dX4_readWindow_40 ?_
    refine g_get (pc := 43) X inlX6 0 rfl rfl 0 (by decide) mw_12_2 rfl dX4_readWindow_43 ?_
    refine g_iload_n (pc := 46) X 0 rfl dX4_readWindow_46 ?_
    refine g_callV (pc := 47) X (kx_X10_lengthOf l Z w0 w_begins w_lengths w_lefts w_rights w_leans w_leaning Wl (aV (to0 + 1).toNat) wn wr (by omega) b_wn b_wr (by omega) (h_Wl)) iM_X10_lengthOf mw_17_15 mw_17_16 mw_17_17 1 rfl rfl [1, 2] [0, 3, 4, 5, 6, 7, 8, 9, 10, 11, 12, 13, 14] rfl (wr := [cO_rirrrrrrirrr r0 6 w0 ro r_doors r_openingWalls r_froms r_tos r_lowers r_uppers rs r_standWalls r_standXs r_standYs, cA Z w_lefts 0 8 Wh, cA Z w_rights 0 8 Wk, cA Z r_doors 2 8 Rd, cA Z r_openingWalls 0 8 Rw, cA Z r_froms 0 8 Rf, cA Z r_tos 0 8 Rt, cA Z r_lowers 0 8 Rl, cA Z r_uppers 0 8 Ru, cO_rri e0 4 t0 r0 ((to0 + 1) + 1), cO_riirrr t0 9 t_bytes ts tk t_kinds t_places t_values, cA Z t_kinds 0 401 Tk, cA Z t_values 0 401 Tv]) rfl (by decide) rfl rfl (Nat.le_of_ble_eq_true rfl) (by decide) dX4_readWindow_47 (fun r w' hpo => ?_)
    obtain ⟨rfl, rfl, hf47_fb⟩ := hpo
    refine g_as (pc' := 50) (lv' := [(1, .int (iI (aV (to0 + 1).toNat))), (0, .ref e0)]) (st' := [.int (iI (Wl (aV (to0 + 1).toNat).toNat)), .int (iI 0), .ref e0]) (ws' := [cO_rirrrrrrirrr r0 6 w0 ro r_doors r_openingWalls r_froms r_tos r_lowers r_uppers rs r_standWalls r_standXs r_standYs, cA Z w_lefts 0 8 Wh, cA Z w_rights 0 8 Wk, cA Z r_doors 2 8 Rd, cA Z r_openingWalls 0 8 Rw, cA Z r_froms 0 8 Rf, cA Z r_tos 0 8 Rt, cA Z r_lowers 0 8 Rl, cA Z r_uppers 0 8 Ru, cO_rri e0 4 t0 r0 ((to0 + 1) + 1), cO_riirrr t0 9 t_bytes ts tk t_kinds t_places t_values, cA Z t_kinds 0 401 Tk, cA Z t_values 0 401 Tv, cO_rrrrrrii w0 10 w_begins w_lengths w_lefts w_rights w_leans w_leaning wn wr, cA Z w_lengths 0 8 Wl]) rfl rfl rfl rfl ?_
    refine g_callV (pc := 50) X (kx_X4_readNumber l Z e0 t0 r0 t_bytes t_kinds t_places t_values aK aV Tk Tv 0 (Wl (aV (to0 + 1).toNat).toNat) ((to0 + 1) + 1) ts tk (by decide) (by omega) (by omega) b_ts b_tk (hK) (hV) (hO) (by omega) (h_Tk) (h_Tv)) iM_X4_readNumber mw_16_22 mw_16_23 mw_17_0 9 rfl rfl [9, 10, 11, 12] [0, 1, 2, 3, 4, 5, 6, 7, 8, 13, 14] rfl (wr := [cO_rirrrrrrirrr r0 6 w0 ro r_doors r_openingWalls r_froms r_tos r_lowers r_uppers rs r_standWalls r_standXs r_standYs, cA Z w_lefts 0 8 Wh, cA Z w_rights 0 8 Wk, cA Z r_doors 2 8 Rd, cA Z r_openingWalls 0 8 Rw, cA Z r_froms 0 8 Rf, cA Z r_tos 0 8 Rt, cA Z r_lowers 0 8 Rl, cA Z r_uppers 0 8 Ru, cO_rrrrrrii w0 10 w_begins w_lengths w_lefts w_rights w_leans w_leaning wn wr, cA Z w_lengths 0 8 Wl]) rfl (by decide) rfl rfl (Nat.le_of_ble_eq_true rfl) (by decide) dX4_readWindow_50 (fun r w' hpo => ?_)
    rcases hpo with hp0 | hp1
    · obtain ⟨rfl, rfl, hf50_f1⟩ := hp0
      refine g_as (pc' := 53) (lv' := [(1, .int (iI (aV (to0 + 1).toNat))), (0, .ref e0)]) (st' := [.int (iI (-1))]) (ws' := [cO_rirrrrrrirrr r0 6 w0 ro r_doors r_openingWalls r_froms r_tos r_lowers r_uppers rs r_standWalls r_standXs r_standYs, cA Z w_lefts 0 8 Wh, cA Z w_rights 0 8 Wk, cA Z r_doors 2 8 Rd, cA Z r_openingWalls 0 8 Rw, cA Z r_froms 0 8 Rf, cA Z r_tos 0 8 Rt, cA Z r_lowers 0 8 Rl, cA Z r_uppers 0 8 Ru, cO_rrrrrrii w0 10 w_begins w_lengths w_lefts w_rights w_leans w_leaning wn wr, cA Z w_lengths 0 8 Wl, cO_rri e0 4 t0 r0 ((to0 + 1) + 1), cO_riirrr t0 9 t_bytes ts tk t_kinds t_places t_values, cA Z t_kinds 0 401 Tk, cA Z t_values 0 401 Tv]) rfl rfl rfl rfl ?_
      refine g_istore_n (pc := 53) X (i := 2) rfl (by decide) (lv' := [(2, .int (iI (-1))), (1, .int (iI (aV (to0 + 1).toNat))), (0, .ref e0)]) rfl dX4_readWindow_53 ?_
      refine g_iload_n (pc := 54) X 0 rfl dX4_readWindow_54 ?_
      refine g_iconst (pc := 55) X (iI (-1)) (by rfl) dX4_readWindow_55 ?_
      refine g_icmp_neI (pc := 56) X 63 (by decide) ⟨by decide, by decide⟩ ⟨by decide, by decide⟩ dX4_readWindow_56 (fun h => absurd h (by decide)) (fun _ => ?_)
      refine g_iconst (pc := 59) X (iI (-1)) (by rfl) dX4_readWindow_59 ?_
      refine g_goto (pc := 60) X 81 (by decide) dX4_readWindow_60 ?_
      refine g_istore_n (pc := 81) X (i := 3) rfl (by decide) (lv' := [(3, .int (iI (-1))), (2, .int (iI (-1))), (1, .int (iI (aV (to0 + 1).toNat))), (0, .ref e0)]) rfl dX4_readWindow_81 ?_
      refine g_iload_n (pc := 82) X 0 rfl dX4_readWindow_82 ?_
      refine g_iconst (pc := 83) X (iI (-1)) (by rfl) dX4_readWindow_83 ?_
      refine g_icmp_neI (pc := 84) X 91 (by decide) ⟨by decide, by decide⟩ ⟨by decide, by decide⟩ dX4_readWindow_84 (fun h => absurd h (by decide)) (fun _ => ?_)
      refine g_iconst (pc := 87) X (iI (-1)) (by rfl) dX4_readWindow_87 ?_
      refine g_goto (pc := 88) X 99 (by decide) dX4_readWindow_88 ?_
      refine g_istore (pc := 99) X (by decide) (lv' := [(4, .int (iI (-1))), (3, .int (iI (-1))), (2, .int (iI (-1))), (1, .int (iI (aV (to0 + 1).toNat))), (0, .ref e0)]) rfl dX4_readWindow_99 ?_
      refine g_iload (pc := 101) X 0 rfl dX4_readWindow_101 ?_
      refine g_iconst (pc := 103) X (iI (-1)) (by rfl) dX4_readWindow_103 ?_
      refine g_icmp_neI (pc := 104) X 111 (by decide) ⟨by decide, by decide⟩ ⟨by decide, by decide⟩ dX4_readWindow_104 (fun h => absurd h (by decide)) (fun _ => ?_)
      refine g_iconst (pc := 107) X (iI (-1)) (by rfl) dX4_readWindow_107 ?_
      refine g_goto (pc := 108) X 132 (by decide) dX4_readWindow_108 ?_
      refine g_istore (pc := 132) X (by decide) (lv' := [(5, .int (iI (-1))), (4, .int (iI (-1))), (3, .int (iI (-1))), (2, .int (iI (-1))), (1, .int (iI (aV (to0 + 1).toNat))), (0, .ref e0)]) rfl dX4_readWindow_132 ?_
      refine g_iload (pc := 134) X 0 rfl dX4_readWindow_134 ?_
      refine g_iconst (pc := 136) X (iI (-1)) (by rfl) dX4_readWindow_136 ?_
      refine g_icmp_eqI (pc := 137) X 149 (by decide) ⟨by decide, by decide⟩ ⟨by decide, by decide⟩ dX4_readWindow_137 (fun _ => ?_) (fun h => absurd h (by decide))
      refine g_iconst (pc := 149) X (iI 0) (by rfl) dX4_readWindow_149 ?_
      refine g_ws (ws' := [cO_rri e0 4 t0 r0 ((to0 + 1) + 1), cO_riirrr t0 9 t_bytes ts tk t_kinds t_places t_values, cA Z t_kinds 0 401 Tk, cA Z t_values 0 401 Tv, cO_rirrrrrrirrr r0 6 w0 ro r_doors r_openingWalls r_froms r_tos r_lowers r_uppers rs r_standWalls r_standXs r_standYs, cO_rrrrrrii w0 10 w_begins w_lengths w_lefts w_rights w_leans w_leaning wn wr, cA Z w_lengths 0 8 Wl, cA Z w_lefts 0 8 Wh, cA Z w_rights 0 8 Wk, cA Z r_doors 2 8 Rd, cA Z r_openingWalls 0 8 Rw, cA Z r_froms 0 8 Rf, cA Z r_tos 0 8 Rt, cA Z r_lowers 0 8 Rl, cA Z r_uppers 0 8 Ru]) [11, 12, 13, 14, 0, 9, 10, 1, 2, 3, 4, 5, 6, 7, 8] (by decide) rfl ?_
      exact g_zret (pc := 150) X hA (rfl) (⟨Rd, Rw, Rf, Rt, Rl, Ru, ((to0 + 1) + 1), ro, 0, rfl, rfl, (by omega), (b_ro), (by omega), (h_Rd), (h_Rw), (h_Rf), (h_Rt), (h_Rl), (h_Ru), (by omega), (by omega), (by omega), (by have q := wiC_2 (K := aK) (V := aV) (t := to0) (nw := wn) (L := Wl) (H := Wh) (Q := Wk) (by omega) (by omega); omega), (fun h => absurd h (by decide)), (fun h => absurd h (by decide)), (fun h => absurd h (by decide)), (fun h => absurd h (by decide)), (fun h => absurd h (by decide)), (fun h => absurd h (by decide)), (fun h => absurd h (by decide))⟩) (by decide) (by decide) dX4_readWindow_150
    · refine anD_5 hp1 fun e_r e_w hf50_f1 hf50_f3 hf50_fb => ?_; clear hp1; subst e_r; subst e_w
      refine g_as (pc' := 53) (lv' := [(1, .int (iI (aV (to0 + 1).toNat))), (0, .ref e0)]) (st' := [.int (iI (aV ((to0 + 1) + 1).toNat))]) (ws' := [cO_rirrrrrrirrr r0 6 w0 ro r_doors r_openingWalls r_froms r_tos r_lowers r_uppers rs r_standWalls r_standXs r_standYs, cA Z w_lefts 0 8 Wh, cA Z w_rights 0 8 Wk, cA Z r_doors 2 8 Rd, cA Z r_openingWalls 0 8 Rw, cA Z r_froms 0 8 Rf, cA Z r_tos 0 8 Rt, cA Z r_lowers 0 8 Rl, cA Z r_uppers 0 8 Ru, cO_rrrrrrii w0 10 w_begins w_lengths w_lefts w_rights w_leans w_leaning wn wr, cA Z w_lengths 0 8 Wl, cO_rri e0 4 t0 r0 (((to0 + 1) + 1) + 1), cO_riirrr t0 9 t_bytes ts tk t_kinds t_places t_values, cA Z t_kinds 0 401 Tk, cA Z t_values 0 401 Tv]) rfl rfl rfl rfl ?_
      have tt7 : 0 ≤ aV ((to0 + 1) + 1).toNat ∧ aV ((to0 + 1) + 1).toNat ≤ 600 := by omega
      refine g_istore_n (pc := 53) X (i := 2) rfl (by decide) (lv' := [(2, .int (iI (aV ((to0 + 1) + 1).toNat))), (1, .int (iI (aV (to0 + 1).toNat))), (0, .ref e0)]) rfl dX4_readWindow_53 ?_
      refine g_iload_n (pc := 54) X 0 rfl dX4_readWindow_54 ?_
      refine g_iconst (pc := 55) X (iI (-1)) (by rfl) dX4_readWindow_55 ?_
      refine g_icmp_neI (pc := 56) X 63 (by decide) ⟨by omega, by omega⟩ ⟨by decide, by decide⟩ dX4_readWindow_56 (fun c56 => ?_) (fun h => absurd h (by omega))
      refine g_aload_n (pc := 63) X 2 rfl dX4_readWindow_63 ?_
      refine g_iload_n (pc := 64) X 0 rfl dX4_readWindow_64 ?_
      refine g_iconst (pc := 65) X (iI 1) (by rfl) dX4_readWindow_65 ?_
      refine g_iaddI (pc := 66) X dX4_readWindow_66 ?_
      refine g_aload_n (pc := 67) X 2 rfl dX4_readWindow_67 ?_
      refine g_get (pc := 68) X inlX4 11 rfl rfl 1 (by decide) mw_12_1 rfl dX4_readWindow_68 ?_
      refine g_get (pc := 71) X inlX6 0 rfl rfl 0 (by decide) mw_12_2 rfl dX4_readWindow_71 ?_
      refine g_iload_n (pc := 74) X 1 rfl dX4_readWindow_74 ?_
      refine g_callV (pc := 75) X (kx_X10_lengthOf l Z w0 w_begins w_lengths w_lefts w_rights w_leans w_leaning Wl (aV (to0 + 1).toNat) wn wr (by omega) b_wn b_wr (by omega) (h_Wl)) iM_X10_lengthOf mw_17_15 mw_17_16 mw_17_17 9 rfl rfl [9, 10] [0, 1, 2, 3, 4, 5, 6, 7, 8, 11, 12, 13, 14] rfl (wr := [cO_rirrrrrrirrr r0 6 w0 ro r_doors r_openingWalls r_froms r_tos r_lowers r_uppers rs r_standWalls r_standXs r_standYs, cA Z w_lefts 0 8 Wh, cA Z w_rights 0 8 Wk, cA Z r_doors 2 8 Rd, cA Z r_openingWalls 0 8 Rw, cA Z r_froms 0 8 Rf, cA Z r_tos 0 8 Rt, cA Z r_lowers 0 8 Rl, cA Z r_uppers 0 8 Ru, cO_rri e0 4 t0 r0 (((to0 + 1) + 1) + 1), cO_riirrr t0 9 t_bytes ts tk t_kinds t_places t_values, cA Z t_kinds 0 401 Tk, cA Z t_values 0 401 Tv]) rfl (by decide) rfl rfl (Nat.le_of_ble_eq_true rfl) (by decide) dX4_readWindow_75 (fun r w' hpo => ?_)
      obtain ⟨rfl, rfl, hf75_fb⟩ := hpo
      refine g_as (pc' := 78) (lv' := [(2, .int (iI (aV ((to0 + 1) + 1).toNat))), (1, .int (iI (aV (to0 + 1).toNat))), (0, .ref e0)]) (st' := [.int (iI (Wl (aV (to0 + 1).toNat).toNat)), .int (iI ((aV ((to0 + 1) + 1).toNat) + 1)), .ref e0]) (ws' := [cO_rirrrrrrirrr r0 6 w0 ro r_doors r_openingWalls r_froms r_tos r_lowers r_uppers rs r_standWalls r_standXs r_standYs, cA Z w_lefts 0 8 Wh, cA Z w_rights 0 8 Wk, cA Z r_doors 2 8 Rd, cA Z r_openingWalls 0 8 Rw, cA Z r_froms 0 8 Rf, cA Z r_tos 0 8 Rt, cA Z r_lowers 0 8 Rl, cA Z r_uppers 0 8 Ru, cO_rri e0 4 t0 r0 (((to0 + 1) + 1) + 1), cO_riirrr t0 9 t_bytes ts tk t_kinds t_places t_values, cA Z t_kinds 0 401 Tk, cA Z t_values 0 401 Tv, cO_rrrrrrii w0 10 w_begins w_lengths w_lefts w_rights w_leans w_leaning wn wr, cA Z w_lengths 0 8 Wl]) rfl rfl rfl rfl ?_
      refine g_callV (pc := 78) X (kx_X4_readNumber l Z e0 t0 r0 t_bytes t_kinds t_places t_values aK aV Tk Tv ((aV ((to0 + 1) + 1).toNat) + 1) (Wl (aV (to0 + 1).toNat).toNat) (((to0 + 1) + 1) + 1) ts tk (by omega) (by omega) (by omega) b_ts b_tk (hK) (hV) (hO) (by omega) (h_Tk) (h_Tv)) iM_X4_readNumber mw_16_22 mw_16_23 mw_17_0 9 rfl rfl [9, 10, 11, 12] [0, 1, 2, 3, 4, 5, 6, 7, 8, 13, 14] rfl (wr := [cO_rirrrrrrirrr r0 6 w0 ro r_doors r_openingWalls r_froms r_tos r_lowers r_uppers rs r_standWalls r_standXs r_standYs, cA Z w_lefts 0 8 Wh, cA Z w_rights 0 8 Wk, cA Z r_doors 2 8 Rd, cA Z r_openingWalls 0 8 Rw, cA Z r_froms 0 8 Rf, cA Z r_tos 0 8 Rt, cA Z r_lowers 0 8 Rl, cA Z r_uppers 0 8 Ru, cO_rrrrrrii w0 10 w_begins w_lengths w_lefts w_rights w_leans w_leaning wn wr, cA Z w_lengths 0 8 Wl]) rfl (by decide) rfl rfl (Nat.le_of_ble_eq_true rfl) (by decide) dX4_readWindow_78 (fun r w' hpo => ?_)
      rcases hpo with hp0 | hp1
      · obtain ⟨rfl, rfl, hf78_f1⟩ := hp0
        refine g_as (pc' := 81) (lv' := [(2, .int (iI (aV ((to0 + 1) + 1).toNat))), (1, .int (iI (aV (to0 + 1).toNat))), (0, .ref e0)]) (st' := [.int (iI (-1))]) (ws' := [cO_rirrrrrrirrr r0 6 w0 ro r_doors r_openingWalls r_froms r_tos r_lowers r_uppers rs r_standWalls r_standXs r_standYs, cA Z w_lefts 0 8 Wh, cA Z w_rights 0 8 Wk, cA Z r_doors 2 8 Rd, cA Z r_openingWalls 0 8 Rw, cA Z r_froms 0 8 Rf, cA Z r_tos 0 8 Rt, cA Z r_lowers 0 8 Rl, cA Z r_uppers 0 8 Ru, cO_rrrrrrii w0 10 w_begins w_lengths w_lefts w_rights w_leans w_leaning wn wr, cA Z w_lengths 0 8 Wl, cO_rri e0 4 t0 r0 (((to0 + 1) + 1) + 1), cO_riirrr t0 9 t_bytes ts tk t_kinds t_places t_values, cA Z t_kinds 0 401 Tk, cA Z t_values 0 401 Tv]) rfl rfl rfl rfl ?_
        refine g_istore_n (pc := 81) X (i := 3) rfl (by decide) (lv' := [(3, .int (iI (-1))), (2, .int (iI (aV ((to0 + 1) + 1).toNat))), (1, .int (iI (aV (to0 + 1).toNat))), (0, .ref e0)]) rfl dX4_readWindow_81 ?_
        refine g_iload_n (pc := 82) X 0 rfl dX4_readWindow_82 ?_
        refine g_iconst (pc := 83) X (iI (-1)) (by rfl) dX4_readWindow_83 ?_
        refine g_icmp_neI (pc := 84) X 91 (by decide) ⟨by decide, by decide⟩ ⟨by decide, by decide⟩ dX4_readWindow_84 (fun h => absurd h (by decide)) (fun _ => ?_)
        refine g_iconst (pc := 87) X (iI (-1)) (by rfl) dX4_readWindow_87 ?_
        refine g_goto (pc := 88) X 99 (by decide) dX4_readWindow_88 ?_
        refine g_istore (pc := 99) X (by decide) (lv' := [(4, .int (iI (-1))), (3, .int (iI (-1))), (2, .int (iI (aV ((to0 + 1) + 1).toNat))), (1, .int (iI (aV (to0 + 1).toNat))), (0, .ref e0)]) rfl dX4_readWindow_99 ?_
        refine g_iload (pc := 101) X 0 rfl dX4_readWindow_101 ?_
        refine g_iconst (pc := 103) X (iI (-1)) (by rfl) dX4_readWindow_103 ?_
        refine g_icmp_neI (pc := 104) X 111 (by decide) ⟨by decide, by decide⟩ ⟨by decide, by decide⟩ dX4_readWindow_104 (fun h => absurd h (by decide)) (fun _ => ?_)
        refine g_iconst (pc := 107) X (iI (-1)) (by rfl) dX4_readWindow_107 ?_
        refine g_goto (pc := 108) X 132 (by decide) dX4_readWindow_108 ?_
        refine g_istore (pc := 132) X (by decide) (lv' := [(5, .int (iI (-1))), (4, .int (iI (-1))), (3, .int (iI (-1))), (2, .int (iI (aV ((to0 + 1) + 1).toNat))), (1, .int (iI (aV (to0 + 1).toNat))), (0, .ref e0)]) rfl dX4_readWindow_132 ?_
        refine g_iload (pc := 134) X 0 rfl dX4_readWindow_134 ?_
        refine g_iconst (pc := 136) X (iI (-1)) (by rfl) dX4_readWindow_136 ?_
        refine g_icmp_eqI (pc := 137) X 149 (by decide) ⟨by decide, by decide⟩ ⟨by decide, by decide⟩ dX4_readWindow_137 (fun _ => ?_) (fun h => absurd h (by decide))
        refine g_iconst (pc := 149) X (iI 0) (by rfl) dX4_readWindow_149 ?_
        refine g_ws (ws' := [cO_rri e0 4 t0 r0 (((to0 + 1) + 1) + 1), cO_riirrr t0 9 t_bytes ts tk t_kinds t_places t_values, cA Z t_kinds 0 401 Tk, cA Z t_values 0 401 Tv, cO_rirrrrrrirrr r0 6 w0 ro r_doors r_openingWalls r_froms r_tos r_lowers r_uppers rs r_standWalls r_standXs r_standYs, cO_rrrrrrii w0 10 w_begins w_lengths w_lefts w_rights w_leans w_leaning wn wr, cA Z w_lengths 0 8 Wl, cA Z w_lefts 0 8 Wh, cA Z w_rights 0 8 Wk, cA Z r_doors 2 8 Rd, cA Z r_openingWalls 0 8 Rw, cA Z r_froms 0 8 Rf, cA Z r_tos 0 8 Rt, cA Z r_lowers 0 8 Rl, cA Z r_uppers 0 8 Ru]) [11, 12, 13, 14, 0, 9, 10, 1, 2, 3, 4, 5, 6, 7, 8] (by decide) rfl ?_
        exact g_zret (pc := 150) X hA (rfl) (⟨Rd, Rw, Rf, Rt, Rl, Ru, (((to0 + 1) + 1) + 1), ro, 0, rfl, rfl, (by omega), (b_ro), (by omega), (h_Rd), (h_Rw), (h_Rf), (h_Rt), (h_Rl), (h_Ru), (by omega), (by omega), (by omega), (by have q := wiC_3 (K := aK) (V := aV) (t := to0) (nw := wn) (L := Wl) (H := Wh) (Q := Wk) (by omega) (by omega) (by omega); omega), (fun h => absurd h (by decide)), (fun h => absurd h (by decide)), (fun h => absurd h (by decide)), (fun h => absurd h (by decide)), (fun h => absurd h (by decide)), (fun h => absurd h (by decide)), (fun h => absurd h (by decide))⟩) (by decide) (by decide) dX4_readWindow_150
      · refine anD_5 hp1 fun e_r e_w hf78_f1 hf78_f3 hf78_fb => ?_; clear hp1; subst e_r; subst e_w
        refine g_as (pc' := 81) (lv' := [(2, .int (iI (aV ((to0 + 1) + 1).toNat))), (1, .int (iI (aV (to0 + 1).toNat))), (0, .ref e0)]) (st' := [.int (iI (aV (((to0 + 1) + 1) + 1).toNat))]) (ws' := [cO_rirrrrrrirrr r0 6 w0 ro r_doors r_openingWalls r_froms r_tos r_lowers r_uppers rs r_standWalls r_standXs r_standYs, cA Z w_lefts 0 8 Wh, cA Z w_rights 0 8 Wk, cA Z r_doors 2 8 Rd, cA Z r_openingWalls 0 8 Rw, cA Z r_froms 0 8 Rf, cA Z r_tos 0 8 Rt, cA Z r_lowers 0 8 Rl, cA Z r_uppers 0 8 Ru, cO_rrrrrrii w0 10 w_begins w_lengths w_lefts w_rights w_leans w_leaning wn wr, cA Z w_lengths 0 8 Wl, cO_rri e0 4 t0 r0 ((((to0 + 1) + 1) + 1) + 1), cO_riirrr t0 9 t_bytes ts tk t_kinds t_places t_values, cA Z t_kinds 0 401 Tk, cA Z t_values 0 401 Tv]) rfl rfl rfl rfl ?_
        have tt11 : 0 ≤ aV (((to0 + 1) + 1) + 1).toNat ∧ aV (((to0 + 1) + 1) + 1).toNat ≤ 600 := by omega
        refine g_istore_n (pc := 81) X (i := 3) rfl (by decide) (lv' := [(3, .int (iI (aV (((to0 + 1) + 1) + 1).toNat))), (2, .int (iI (aV ((to0 + 1) + 1).toNat))), (1, .int (iI (aV (to0 + 1).toNat))), (0, .ref e0)]) rfl dX4_readWindow_81 ?_
        refine g_iload_n (pc := 82) X 0 rfl dX4_readWindow_82 ?_
        refine g_iconst (pc := 83) X (iI (-1)) (by rfl) dX4_readWindow_83 ?_
        refine g_icmp_neI (pc := 84) X 91 (by decide) ⟨by omega, by omega⟩ ⟨by decide, by decide⟩ dX4_readWindow_84 (fun c84 => ?_) (fun h => absurd h (by omega))
        refine g_aload_n (pc := 91) X 3 rfl dX4_readWindow_91 ?_
        refine g_iconst (pc := 92) X (iI 1) (by rfl) dX4_readWindow_92 ?_
        refine g_sipush (pc := 93) X (iI 300) (by decide) dX4_readWindow_93 ?_
        refine g_callV (pc := 96) X (kx_X4_readNumber l Z e0 t0 r0 t_bytes t_kinds t_places t_values aK aV Tk Tv 1 300 ((((to0 + 1) + 1) + 1) + 1) ts tk (by decide) (by decide) (by omega) b_ts b_tk (hK) (hV) (hO) (by omega) (h_Tk) (h_Tv)) iM_X4_readNumber mw_16_22 mw_16_23 mw_17_0 11 rfl rfl [11, 12, 13, 14] [0, 1, 2, 3, 4, 5, 6, 7, 8, 9, 10] rfl (wr := [cO_rirrrrrrirrr r0 6 w0 ro r_doors r_openingWalls r_froms r_tos r_lowers r_uppers rs r_standWalls r_standXs r_standYs, cA Z w_lefts 0 8 Wh, cA Z w_rights 0 8 Wk, cA Z r_doors 2 8 Rd, cA Z r_openingWalls 0 8 Rw, cA Z r_froms 0 8 Rf, cA Z r_tos 0 8 Rt, cA Z r_lowers 0 8 Rl, cA Z r_uppers 0 8 Ru, cO_rrrrrrii w0 10 w_begins w_lengths w_lefts w_rights w_leans w_leaning wn wr, cA Z w_lengths 0 8 Wl]) rfl (by decide) rfl rfl (Nat.le_of_ble_eq_true rfl) (by decide) dX4_readWindow_96 (fun r w' hpo => ?_)
        rcases hpo with hp0 | hp1
        · obtain ⟨rfl, rfl, hf96_f1⟩ := hp0
          refine g_as (pc' := 99) (lv' := [(3, .int (iI (aV (((to0 + 1) + 1) + 1).toNat))), (2, .int (iI (aV ((to0 + 1) + 1).toNat))), (1, .int (iI (aV (to0 + 1).toNat))), (0, .ref e0)]) (st' := [.int (iI (-1))]) (ws' := [cO_rirrrrrrirrr r0 6 w0 ro r_doors r_openingWalls r_froms r_tos r_lowers r_uppers rs r_standWalls r_standXs r_standYs, cA Z w_lefts 0 8 Wh, cA Z w_rights 0 8 Wk, cA Z r_doors 2 8 Rd, cA Z r_openingWalls 0 8 Rw, cA Z r_froms 0 8 Rf, cA Z r_tos 0 8 Rt, cA Z r_lowers 0 8 Rl, cA Z r_uppers 0 8 Ru, cO_rrrrrrii w0 10 w_begins w_lengths w_lefts w_rights w_leans w_leaning wn wr, cA Z w_lengths 0 8 Wl, cO_rri e0 4 t0 r0 ((((to0 + 1) + 1) + 1) + 1), cO_riirrr t0 9 t_bytes ts tk t_kinds t_places t_values, cA Z t_kinds 0 401 Tk, cA Z t_values 0 401 Tv]) rfl rfl rfl rfl ?_
          refine g_istore (pc := 99) X (by decide) (lv' := [(4, .int (iI (-1))), (3, .int (iI (aV (((to0 + 1) + 1) + 1).toNat))), (2, .int (iI (aV ((to0 + 1) + 1).toNat))), (1, .int (iI (aV (to0 + 1).toNat))), (0, .ref e0)]) rfl dX4_readWindow_99 ?_
          refine g_iload (pc := 101) X 0 rfl dX4_readWindow_101 ?_
          refine g_iconst (pc := 103) X (iI (-1)) (by rfl) dX4_readWindow_103 ?_
          refine g_icmp_neI (pc := 104) X 111 (by decide) ⟨by decide, by decide⟩ ⟨by decide, by decide⟩ dX4_readWindow_104 (fun h => absurd h (by decide)) (fun _ => ?_)
          refine g_iconst (pc := 107) X (iI (-1)) (by rfl) dX4_readWindow_107 ?_
          refine g_goto (pc := 108) X 132 (by decide) dX4_readWindow_108 ?_
          refine g_istore (pc := 132) X (by decide) (lv' := [(5, .int (iI (-1))), (4, .int (iI (-1))), (3, .int (iI (aV (((to0 + 1) + 1) + 1).toNat))), (2, .int (iI (aV ((to0 + 1) + 1).toNat))), (1, .int (iI (aV (to0 + 1).toNat))), (0, .ref e0)]) rfl dX4_readWindow_132 ?_
          refine g_iload (pc := 134) X 0 rfl dX4_readWindow_134 ?_
          refine g_iconst (pc := 136) X (iI (-1)) (by rfl) dX4_readWindow_136 ?_
          refine g_icmp_eqI (pc := 137) X 149 (by decide) ⟨by decide, by decide⟩ ⟨by decide, by decide⟩ dX4_readWindow_137 (fun _ => ?_) (fun h => absurd h (by decide))
          refine g_iconst (pc := 149) X (iI 0) (by rfl) dX4_readWindow_149 ?_
          refine g_ws (ws' := [cO_rri e0 4 t0 r0 ((((to0 + 1) + 1) + 1) + 1), cO_riirrr t0 9 t_bytes ts tk t_kinds t_places t_values, cA Z t_kinds 0 401 Tk, cA Z t_values 0 401 Tv, cO_rirrrrrrirrr r0 6 w0 ro r_doors r_openingWalls r_froms r_tos r_lowers r_uppers rs r_standWalls r_standXs r_standYs, cO_rrrrrrii w0 10 w_begins w_lengths w_lefts w_rights w_leans w_leaning wn wr, cA Z w_lengths 0 8 Wl, cA Z w_lefts 0 8 Wh, cA Z w_rights 0 8 Wk, cA Z r_doors 2 8 Rd, cA Z r_openingWalls 0 8 Rw, cA Z r_froms 0 8 Rf, cA Z r_tos 0 8 Rt, cA Z r_lowers 0 8 Rl, cA Z r_uppers 0 8 Ru]) [11, 12, 13, 14, 0, 9, 10, 1, 2, 3, 4, 5, 6, 7, 8] (by decide) rfl ?_
          exact g_zret (pc := 150) X hA (rfl) (⟨Rd, Rw, Rf, Rt, Rl, Ru, ((((to0 + 1) + 1) + 1) + 1), ro, 0, rfl, rfl, (by omega), (b_ro), (by omega), (h_Rd), (h_Rw), (h_Rf), (h_Rt), (h_Rl), (h_Ru), (by omega), (by omega), (by omega), (by have q := wiC_4 (K := aK) (V := aV) (t := to0) (nw := wn) (L := Wl) (H := Wh) (Q := Wk) (by omega) (by omega) (by omega) (by omega); omega), (fun h => absurd h (by decide)), (fun h => absurd h (by decide)), (fun h => absurd h (by decide)), (fun h => absurd h (by decide)), (fun h => absurd h (by decide)), (fun h => absurd h (by decide)), (fun h => absurd h (by decide))⟩) (by decide) (by decide) dX4_readWindow_150
        · refine anD_5 hp1 fun e_r e_w hf96_f1 hf96_f3 hf96_fb => ?_; clear hp1; subst e_r; subst e_w
          refine g_as (pc' := 99) (lv' := [(3, .int (iI (aV (((to0 + 1) + 1) + 1).toNat))), (2, .int (iI (aV ((to0 + 1) + 1).toNat))), (1, .int (iI (aV (to0 + 1).toNat))), (0, .ref e0)]) (st' := [.int (iI (aV ((((to0 + 1) + 1) + 1) + 1).toNat))]) (ws' := [cO_rirrrrrrirrr r0 6 w0 ro r_doors r_openingWalls r_froms r_tos r_lowers r_uppers rs r_standWalls r_standXs r_standYs, cA Z w_lefts 0 8 Wh, cA Z w_rights 0 8 Wk, cA Z r_doors 2 8 Rd, cA Z r_openingWalls 0 8 Rw, cA Z r_froms 0 8 Rf, cA Z r_tos 0 8 Rt, cA Z r_lowers 0 8 Rl, cA Z r_uppers 0 8 Ru, cO_rrrrrrii w0 10 w_begins w_lengths w_lefts w_rights w_leans w_leaning wn wr, cA Z w_lengths 0 8 Wl, cO_rri e0 4 t0 r0 (((((to0 + 1) + 1) + 1) + 1) + 1), cO_riirrr t0 9 t_bytes ts tk t_kinds t_places t_values, cA Z t_kinds 0 401 Tk, cA Z t_values 0 401 Tv]) rfl rfl rfl rfl ?_
          have tt14 : 1 ≤ aV ((((to0 + 1) + 1) + 1) + 1).toNat ∧ aV ((((to0 + 1) + 1) + 1) + 1).toNat ≤ 300 := by omega
          refine g_istore (pc := 99) X (by decide) (lv' := [(4, .int (iI (aV ((((to0 + 1) + 1) + 1) + 1).toNat))), (3, .int (iI (aV (((to0 + 1) + 1) + 1).toNat))), (2, .int (iI (aV ((to0 + 1) + 1).toNat))), (1, .int (iI (aV (to0 + 1).toNat))), (0, .ref e0)]) rfl dX4_readWindow_99 ?_
          refine g_iload (pc := 101) X 0 rfl dX4_readWindow_101 ?_
          refine g_iconst (pc := 103) X (iI (-1)) (by rfl) dX4_readWindow_103 ?_
          refine g_icmp_neI (pc := 104) X 111 (by decide) ⟨by omega, by omega⟩ ⟨by decide, by decide⟩ dX4_readWindow_104 (fun c104 => ?_) (fun h => absurd h (by omega))
          refine g_aload_n (pc := 111) X 4 rfl dX4_readWindow_111 ?_
          refine g_iload (pc := 112) X 0 rfl dX4_readWindow_112 ?_
          refine g_iconst (pc := 114) X (iI 1) (by rfl) dX4_readWindow_114 ?_
          refine g_iaddI (pc := 115) X dX4_readWindow_115 ?_
          refine g_aload_n (pc := 116) X 4 rfl dX4_readWindow_116 ?_
          refine g_get (pc := 117) X inlX4 11 rfl rfl 1 (by decide) mw_12_1 rfl dX4_readWindow_117 ?_
          refine g_get (pc := 120) X inlX6 0 rfl rfl 0 (by decide) mw_12_2 rfl dX4_readWindow_120 ?_
          refine g_iload_n (pc := 123) X 3 rfl dX4_readWindow_123 ?_
          refine g_callV (pc := 124) X (kx_X10_lesserHeightOf l Z w0 w_begins w_lengths w_lefts w_rights w_leans w_leaning Wh Wk (aV (to0 + 1).toNat) wn wr (by omega) b_wn b_wr (by omega) (h_Wh) (h_Wk)) iM_X10_lesserHeightOf mw_17_23 mw_18_0 mw_18_1 9 rfl rfl [9, 1, 2] [0, 3, 4, 5, 6, 7, 8, 10, 11, 12, 13, 14] rfl (wr := [cO_rirrrrrrirrr r0 6 w0 ro r_doors r_openingWalls r_froms r_tos r_lowers r_uppers rs r_standWalls r_standXs r_standYs, cA Z r_doors 2 8 Rd, cA Z r_openingWalls 0 8 Rw, cA Z r_froms 0 8 Rf, cA Z r_tos 0 8 Rt, cA Z r_lowers 0 8 Rl, cA Z r_uppers 0 8 Ru, cA Z w_lengths 0 8 Wl, cO_rri e0 4 t0 r0 (((((to0 + 1) + 1) + 1) + 1) + 1), cO_riirrr t0 9 t_bytes ts tk t_kinds t_places t_values, cA Z t_kinds 0 401 Tk, cA Z t_values 0 401 Tv]) rfl (by decide) rfl rfl (Nat.le_of_ble_eq_true rfl) (by decide) dX4_readWindow_124 (fun r w' hpo => ?_)
          obtain ⟨rfl, rfl, hf124_fb⟩ := hpo
          refine g_as (pc' := 127) (lv' := [(4, .int (iI (aV ((((to0 + 1) + 1) + 1) + 1).toNat))), (3, .int (iI (aV (((to0 + 1) + 1) + 1).toNat))), (2, .int (iI (aV ((to0 + 1) + 1).toNat))), (1, .int (iI (aV (to0 + 1).toNat))), (0, .ref e0)]) (st' := [.int (iI (les Wh Wk (aV (to0 + 1).toNat))), .int (iI ((aV ((((to0 + 1) + 1) + 1) + 1).toNat) + 1)), .ref e0]) (ws' := [cO_rirrrrrrirrr r0 6 w0 ro r_doors r_openingWalls r_froms r_tos r_lowers r_uppers rs r_standWalls r_standXs r_standYs, cA Z r_doors 2 8 Rd, cA Z r_openingWalls 0 8 Rw, cA Z r_froms 0 8 Rf, cA Z r_tos 0 8 Rt, cA Z r_lowers 0 8 Rl, cA Z r_uppers 0 8 Ru, cA Z w_lengths 0 8 Wl, cO_rri e0 4 t0 r0 (((((to0 + 1) + 1) + 1) + 1) + 1), cO_riirrr t0 9 t_bytes ts tk t_kinds t_places t_values, cA Z t_kinds 0 401 Tk, cA Z t_values 0 401 Tv, cO_rrrrrrii w0 10 w_begins w_lengths w_lefts w_rights w_leans w_leaning wn wr, cA Z w_lefts 0 8 Wh, cA Z w_rights 0 8 Wk]) rfl rfl rfl rfl ?_
          refine g_iconst (pc := 127) X (iI 1) (by rfl) dX4_readWindow_127 ?_
          refine g_isubI (pc := 128) X dX4_readWindow_128 ?_
          refine g_callV (pc := 129) X (kx_X4_readNumber l Z e0 t0 r0 t_bytes t_kinds t_places t_values aK aV Tk Tv ((aV ((((to0 + 1) + 1) + 1) + 1).toNat) + 1) ((les Wh Wk (aV (to0 + 1).toNat)) - 1) (((((to0 + 1) + 1) + 1) + 1) + 1) ts tk (by omega) (by omega) (by omega) b_ts b_tk (hK) (hV) (hO) (by omega) (h_Tk) (h_Tv)) iM_X4_readNumber mw_16_22 mw_16_23 mw_17_0 8 rfl rfl [8, 9, 10, 11] [0, 1, 2, 3, 4, 5, 6, 7, 12, 13, 14] rfl (wr := [cO_rirrrrrrirrr r0 6 w0 ro r_doors r_openingWalls r_froms r_tos r_lowers r_uppers rs r_standWalls r_standXs r_standYs, cA Z r_doors 2 8 Rd, cA Z r_openingWalls 0 8 Rw, cA Z r_froms 0 8 Rf, cA Z r_tos 0 8 Rt, cA Z r_lowers 0 8 Rl, cA Z r_uppers 0 8 Ru, cA Z w_lengths 0 8 Wl, cO_rrrrrrii w0 10 w_begins w_lengths w_lefts w_rights w_leans w_leaning wn wr, cA Z w_lefts 0 8 Wh, cA Z w_rights 0 8 Wk]) rfl (by decide) rfl rfl (Nat.le_of_ble_eq_true rfl) (by decide) dX4_readWindow_129 (fun r w' hpo => ?_)
          rcases hpo with hp0 | hp1
          · obtain ⟨rfl, rfl, hf129_f1⟩ := hp0
            refine g_as (pc' := 132) (lv' := [(4, .int (iI (aV ((((to0 + 1) + 1) + 1) + 1).toNat))), (3, .int (iI (aV (((to0 + 1) + 1) + 1).toNat))), (2, .int (iI (aV ((to0 + 1) + 1).toNat))), (1, .int (iI (aV (to0 + 1).toNat))), (0, .ref e0)]) (st' := [.int (iI (-1))]) (ws' := [cO_rirrrrrrirrr r0 6 w0 ro r_doors r_openingWalls r_froms r_tos r_lowers r_uppers rs r_standWalls r_standXs r_standYs, cA Z r_doors 2 8 Rd, cA Z r_openingWalls 0 8 Rw, cA Z r_froms 0 8 Rf, cA Z r_tos 0 8 Rt, cA Z r_lowers 0 8 Rl, cA Z r_uppers 0 8 Ru, cA Z w_lengths 0 8 Wl, cO_rrrrrrii w0 10 w_begins w_lengths w_lefts w_rights w_leans w_leaning wn wr, cA Z w_lefts 0 8 Wh, cA Z w_rights 0 8 Wk, cO_rri e0 4 t0 r0 (((((to0 + 1) + 1) + 1) + 1) + 1), cO_riirrr t0 9 t_bytes ts tk t_kinds t_places t_values, cA Z t_kinds 0 401 Tk, cA Z t_values 0 401 Tv]) rfl rfl rfl rfl ?_
            refine g_istore (pc := 132) X (by decide) (lv' := [(5, .int (iI (-1))), (4, .int (iI (aV ((((to0 + 1) + 1) + 1) + 1).toNat))), (3, .int (iI (aV (((to0 + 1) + 1) + 1).toNat))), (2, .int (iI (aV ((to0 + 1) + 1).toNat))), (1, .int (iI (aV (to0 + 1).toNat))), (0, .ref e0)]) rfl dX4_readWindow_132 ?_
            refine g_iload (pc := 134) X 0 rfl dX4_readWindow_134 ?_
            refine g_iconst (pc := 136) X (iI (-1)) (by rfl) dX4_readWindow_136 ?_
            refine g_icmp_eqI (pc := 137) X 149 (by decide) ⟨by decide, by decide⟩ ⟨by decide, by decide⟩ dX4_readWindow_137 (fun _ => ?_) (fun h => absurd h (by decide))
            refine g_iconst (pc := 149) X (iI 0) (by rfl) dX4_readWindow_149 ?_
            refine g_ws (ws' := [cO_rri e0 4 t0 r0 (((((to0 + 1) + 1) + 1) + 1) + 1), cO_riirrr t0 9 t_bytes ts tk t_kinds t_places t_values, cA Z t_kinds 0 401 Tk, cA Z t_values 0 401 Tv, cO_rirrrrrrirrr r0 6 w0 ro r_doors r_openingWalls r_froms r_tos r_lowers r_uppers rs r_standWalls r_standXs r_standYs, cO_rrrrrrii w0 10 w_begins w_lengths w_lefts w_rights w_leans w_leaning wn wr, cA Z w_lengths 0 8 Wl, cA Z w_lefts 0 8 Wh, cA Z w_rights 0 8 Wk, cA Z r_doors 2 8 Rd, cA Z r_openingWalls 0 8 Rw, cA Z r_froms 0 8 Rf, cA Z r_tos 0 8 Rt, cA Z r_lowers 0 8 Rl, cA Z r_uppers 0 8 Ru]) [11, 12, 13, 14, 0, 8, 7, 9, 10, 1, 2, 3, 4, 5, 6] (by decide) rfl ?_
            exact g_zret (pc := 150) X hA (rfl) (⟨Rd, Rw, Rf, Rt, Rl, Ru, (((((to0 + 1) + 1) + 1) + 1) + 1), ro, 0, rfl, rfl, (by omega), (b_ro), (by omega), (h_Rd), (h_Rw), (h_Rf), (h_Rt), (h_Rl), (h_Ru), (by omega), (by omega), (by omega), (by have q := wiC_5 (K := aK) (V := aV) (t := to0) (nw := wn) (L := Wl) (H := Wh) (Q := Wk) (by omega) (by omega) (by omega) (by omega) (by omega); omega), (fun h => absurd h (by decide)), (fun h => absurd h (by decide)), (fun h => absurd h (by decide)), (fun h => absurd h (by decide)), (fun h => absurd h (by decide)), (fun h => absurd h (by decide)), (fun h => absurd h (by decide))⟩) (by decide) (by decide) dX4_readWindow_150
          · refine anD_5 hp1 fun e_r e_w hf129_f1 hf129_f3 hf129_fb => ?_; clear hp1; subst e_r; subst e_w
            refine g_as (pc' := 132) (lv' := [(4, .int (iI (aV ((((to0 + 1) + 1) + 1) + 1).toNat))), (3, .int (iI (aV (((to0 + 1) + 1) + 1).toNat))), (2, .int (iI (aV ((to0 + 1) + 1).toNat))), (1, .int (iI (aV (to0 + 1).toNat))), (0, .ref e0)]) (st' := [.int (iI (aV (((((to0 + 1) + 1) + 1) + 1) + 1).toNat))]) (ws' := [cO_rirrrrrrirrr r0 6 w0 ro r_doors r_openingWalls r_froms r_tos r_lowers r_uppers rs r_standWalls r_standXs r_standYs, cA Z r_doors 2 8 Rd, cA Z r_openingWalls 0 8 Rw, cA Z r_froms 0 8 Rf, cA Z r_tos 0 8 Rt, cA Z r_lowers 0 8 Rl, cA Z r_uppers 0 8 Ru, cA Z w_lengths 0 8 Wl, cO_rrrrrrii w0 10 w_begins w_lengths w_lefts w_rights w_leans w_leaning wn wr, cA Z w_lefts 0 8 Wh, cA Z w_rights 0 8 Wk, cO_rri e0 4 t0 r0 ((((((to0 + 1) + 1) + 1) + 1) + 1) + 1), cO_riirrr t0 9 t_bytes ts tk t_kinds t_places t_values, cA Z t_kinds 0 401 Tk, cA Z t_values 0 401 Tv]) rfl rfl rfl rfl ?_
            have tt18 : 0 ≤ aV (((((to0 + 1) + 1) + 1) + 1) + 1).toNat ∧ aV (((((to0 + 1) + 1) + 1) + 1) + 1).toNat ≤ 400 := by omega
            refine g_istore (pc := 132) X (by decide) (lv' := [(5, .int (iI (aV (((((to0 + 1) + 1) + 1) + 1) + 1).toNat))), (4, .int (iI (aV ((((to0 + 1) + 1) + 1) + 1).toNat))), (3, .int (iI (aV (((to0 + 1) + 1) + 1).toNat))), (2, .int (iI (aV ((to0 + 1) + 1).toNat))), (1, .int (iI (aV (to0 + 1).toNat))), (0, .ref e0)]) rfl dX4_readWindow_132 ?_
            refine g_iload (pc := 134) X 0 rfl dX4_readWindow_134 ?_
            refine g_iconst (pc := 136) X (iI (-1)) (by rfl) dX4_readWindow_136 ?_
            refine g_icmp_eqI (pc := 137) X 149 (by decide) ⟨by omega, by omega⟩ ⟨by decide, by decide⟩ dX4_readWindow_137 (fun h => absurd h (by omega)) (fun c137 => ?_)
            refine g_aload_n (pc := 140) X 5 rfl dX4_readWindow_140 ?_
            refine g_bipush (pc := 141) X (iI 8) (by decide) dX4_readWindow_141 ?_
            refine g_callV (pc := 143) X (kx_X4_readSign l Z e0 t0 r0 t_bytes t_kinds t_places t_values aK aV Tk 8 ((((((to0 + 1) + 1) + 1) + 1) + 1) + 1) ts tk (by decide) (by omega) b_ts b_tk (hK) (hO) (by omega) (by omega) (h_Tk)) iM_X4_readSign mw_17_3 mw_17_4 mw_17_5 11 rfl rfl [11, 12, 13] [0, 1, 2, 3, 4, 5, 6, 7, 8, 9, 10, 14] rfl (wr := [cO_rirrrrrrirrr r0 6 w0 ro r_doors r_openingWalls r_froms r_tos r_lowers r_uppers rs r_standWalls r_standXs r_standYs, cA Z r_doors 2 8 Rd, cA Z r_openingWalls 0 8 Rw, cA Z r_froms 0 8 Rf, cA Z r_tos 0 8 Rt, cA Z r_lowers 0 8 Rl, cA Z r_uppers 0 8 Ru, cA Z w_lengths 0 8 Wl, cO_rrrrrrii w0 10 w_begins w_lengths w_lefts w_rights w_leans w_leaning wn wr, cA Z w_lefts 0 8 Wh, cA Z w_rights 0 8 Wk, cA Z t_values 0 401 Tv]) rfl (by decide) rfl rfl (Nat.le_of_ble_eq_true rfl) (by decide) dX4_readWindow_143 (fun r w' hpo => ?_)
            rcases hpo with hp0 | hp1
            · obtain ⟨rfl, rfl, hf143_f1⟩ := hp0
              refine g_as (pc' := 146) (lv' := [(5, .int (iI (aV (((((to0 + 1) + 1) + 1) + 1) + 1).toNat))), (4, .int (iI (aV ((((to0 + 1) + 1) + 1) + 1).toNat))), (3, .int (iI (aV (((to0 + 1) + 1) + 1).toNat))), (2, .int (iI (aV ((to0 + 1) + 1).toNat))), (1, .int (iI (aV (to0 + 1).toNat))), (0, .ref e0)]) (st' := [.int (iI 0)]) (ws' := [cO_rirrrrrrirrr r0 6 w0 ro r_doors r_openingWalls r_froms r_tos r_lowers r_uppers rs r_standWalls r_standXs r_standYs, cA Z r_doors 2 8 Rd, cA Z r_openingWalls 0 8 Rw, cA Z r_froms 0 8 Rf, cA Z r_tos 0 8 Rt, cA Z r_lowers 0 8 Rl, cA Z r_uppers 0 8 Ru, cA Z w_lengths 0 8 Wl, cO_rrrrrrii w0 10 w_begins w_lengths w_lefts w_rights w_leans w_leaning wn wr, cA Z w_lefts 0 8 Wh, cA Z w_rights 0 8 Wk, cA Z t_values 0 401 Tv, cO_rri e0 4 t0 r0 ((((((to0 + 1) + 1) + 1) + 1) + 1) + 1), cO_riirrr t0 9 t_bytes ts tk t_kinds t_places t_values, cA Z t_kinds 0 401 Tk]) rfl rfl rfl rfl ?_
              refine g_if_neI (pc := 146) X 151 (by decide) ⟨by decide, by decide⟩ dX4_readWindow_146 (fun h => absurd h (by decide)) (fun _ => ?_)
              refine g_iconst (pc := 149) X (iI 0) (by rfl) dX4_readWindow_149 ?_
              refine g_ws (ws' := [cO_rri e0 4 t0 r0 ((((((to0 + 1) + 1) + 1) + 1) + 1) + 1), cO_riirrr t0 9 t_bytes ts tk t_kinds t_places t_values, cA Z t_kinds 0 401 Tk, cA Z t_values 0 401 Tv, cO_rirrrrrrirrr r0 6 w0 ro r_doors r_openingWalls r_froms r_tos r_lowers r_uppers rs r_standWalls r_standXs r_standYs, cO_rrrrrrii w0 10 w_begins w_lengths w_lefts w_rights w_leans w_leaning wn wr, cA Z w_lengths 0 8 Wl, cA Z w_lefts 0 8 Wh, cA Z w_rights 0 8 Wk, cA Z r_doors 2 8 Rd, cA Z r_openingWalls 0 8 Rw, cA Z r_froms 0 8 Rf, cA Z r_tos 0 8 Rt, cA Z r_lowers 0 8 Rl, cA Z r_uppers 0 8 Ru]) [12, 13, 14, 11, 0, 8, 7, 9, 10, 1, 2, 3, 4, 5, 6] (by decide) rfl ?_
              exact g_zret (pc := 150) X hA (rfl) (⟨Rd, Rw, Rf, Rt, Rl, Ru, ((((((to0 + 1) + 1) + 1) + 1) + 1) + 1), ro, 0, rfl, rfl, (by omega), (b_ro), (by omega), (h_Rd), (h_Rw), (h_Rf), (h_Rt), (h_Rl), (h_Ru), (by omega), (by omega), (by omega), (by have q := wiC_6 (K := aK) (V := aV) (t := to0) (nw := wn) (L := Wl) (H := Wh) (Q := Wk) (by omega) (by omega) (by omega) (by omega) (by omega) (by omega); omega), (fun h => absurd h (by decide)), (fun h => absurd h (by decide)), (fun h => absurd h (by decide)), (fun h => absurd h (by decide)), (fun h => absurd h (by decide)), (fun h => absurd h (by decide)), (fun h => absurd h (by decide))⟩) (by decide) (by decide) dX4_readWindow_150
            · refine anD_4 hp1 fun e_r e_w hf143_f1 hf143_f3 => ?_; clear hp1; subst e_r; subst e_w
              refine g_as (pc' := 146) (lv' := [(5, .int (iI (aV (((((to0 + 1) + 1) + 1) + 1) + 1).toNat))), (4, .int (iI (aV ((((to0 + 1) + 1) + 1) + 1).toNat))), (3, .int (iI (aV (((to0 + 1) + 1) + 1).toNat))), (2, .int (iI (aV ((to0 + 1) + 1).toNat))), (1, .int (iI (aV (to0 + 1).toNat))), (0, .ref e0)]) (st' := [.int (iI 1)]) (ws' := [cO_rirrrrrrirrr r0 6 w0 ro r_doors r_openingWalls r_froms r_tos r_lowers r_uppers rs r_standWalls r_standXs r_standYs, cA Z r_doors 2 8 Rd, cA Z r_openingWalls 0 8 Rw, cA Z r_froms 0 8 Rf, cA Z r_tos 0 8 Rt, cA Z r_lowers 0 8 Rl, cA Z r_uppers 0 8 Ru, cA Z w_lengths 0 8 Wl, cO_rrrrrrii w0 10 w_begins w_lengths w_lefts w_rights w_leans w_leaning wn wr, cA Z w_lefts 0 8 Wh, cA Z w_rights 0 8 Wk, cA Z t_values 0 401 Tv, cO_rri e0 4 t0 r0 (((((((to0 + 1) + 1) + 1) + 1) + 1) + 1) + 1), cO_riirrr t0 9 t_bytes ts tk t_kinds t_places t_values, cA Z t_kinds 0 401 Tk]) rfl rfl rfl rfl ?_
              refine g_if_neI (pc := 146) X 151 (by decide) ⟨by decide, by decide⟩ dX4_readWindow_146 (fun _ => ?_) (fun h => absurd h (by decide))
              refine g_aload_n (pc := 151) X 5 rfl dX4_readWindow_151 ?_
              refine g_get (pc := 152) X inlX4 12 rfl rfl 1 (by decide) mw_12_1 rfl dX4_readWindow_152 ?_
              refine g_iconst (pc := 155) X (iI 0) (by rfl) dX4_readWindow_155 ?_
              refine g_iload_n (pc := 156) X 4 rfl dX4_readWindow_156 ?_
              refine g_iload_n (pc := 157) X 3 rfl dX4_readWindow_157 ?_
              refine g_iload_n (pc := 158) X 2 rfl dX4_readWindow_158 ?_
              refine g_iload (pc := 159) X 1 rfl dX4_readWindow_159 ?_
              refine g_iload (pc := 161) X 0 rfl dX4_readWindow_161 ?_
              refine g_callV (pc := 163) X (kx_X6_addOpening l Z r0 w0 r_doors r_openingWalls r_froms r_tos r_lowers r_uppers r_standWalls r_standXs r_standYs Rd Rw Rf Rt Rl Ru 0 (aV (to0 + 1).toNat) (aV ((to0 + 1) + 1).toNat) (aV (((to0 + 1) + 1) + 1).toNat) (aV ((((to0 + 1) + 1) + 1) + 1).toNat) (aV (((((to0 + 1) + 1) + 1) + 1) + 1).toNat) ro rs (by decide) (by omega) (by omega) (by omega) (by omega) (by omega) b_ro b_rs (by omega) (h_Rd) (h_Rw) (h_Rf) (h_Rt) (h_Rl) (h_Ru)) iM_X6_addOpening mw_18_4 mw_18_5 mw_18_6 0 rfl rfl [0, 1, 2, 3, 4, 5, 6] [7, 8, 9, 10, 11, 12, 13, 14] rfl (wr := [cA Z w_lengths 0 8 Wl, cO_rrrrrrii w0 10 w_begins w_lengths w_lefts w_rights w_leans w_leaning wn wr, cA Z w_lefts 0 8 Wh, cA Z w_rights 0 8 Wk, cA Z t_values 0 401 Tv, cO_rri e0 4 t0 r0 (((((((to0 + 1) + 1) + 1) + 1) + 1) + 1) + 1), cO_riirrr t0 9 t_bytes ts tk t_kinds t_places t_values, cA Z t_kinds 0 401 Tk]) rfl (by decide) rfl rfl (Nat.le_of_ble_eq_true rfl) (by decide) dX4_readWindow_163 (fun r w' hpo => ?_)
              refine exN_7 hpo fun F21 F22 F23 F24 F25 F26 y27 hz => anD_16 hz fun e_r e_w hf163_b_ro2 hf163_h_Rd2 hf163_h_Rw2 hf163_h_Rf2 hf163_h_Rt2 hf163_h_Rl2 hf163_h_Ru2 hf163_f1 hf163_e0 hf163_e1 hf163_e2 hf163_e3 hf163_e4 hf163_e5 => ?_; clear hz hpo; subst e_r; subst e_w
              refine g_as (pc' := 166) (lv' := [(5, .int (iI (aV (((((to0 + 1) + 1) + 1) + 1) + 1).toNat))), (4, .int (iI (aV ((((to0 + 1) + 1) + 1) + 1).toNat))), (3, .int (iI (aV (((to0 + 1) + 1) + 1).toNat))), (2, .int (iI (aV ((to0 + 1) + 1).toNat))), (1, .int (iI (aV (to0 + 1).toNat))), (0, .ref e0)]) (st' := []) (ws' := [cA Z w_lengths 0 8 Wl, cO_rrrrrrii w0 10 w_begins w_lengths w_lefts w_rights w_leans w_leaning wn wr, cA Z w_lefts 0 8 Wh, cA Z w_rights 0 8 Wk, cA Z t_values 0 401 Tv, cO_rri e0 4 t0 r0 (((((((to0 + 1) + 1) + 1) + 1) + 1) + 1) + 1), cO_riirrr t0 9 t_bytes ts tk t_kinds t_places t_values, cA Z t_kinds 0 401 Tk, cO_rirrrrrrirrr r0 6 w0 y27 r_doors r_openingWalls r_froms r_tos r_lowers r_uppers rs r_standWalls r_standXs r_standYs, cA Z r_doors 2 8 F21, cA Z r_openingWalls 0 8 F22, cA Z r_froms 0 8 F23, cA Z r_tos 0 8 F24, cA Z r_lowers 0 8 F25, cA Z r_uppers 0 8 F26]) rfl rfl rfl rfl ?_
              refine g_iconst (pc := 166) X (iI 1) (by rfl) dX4_readWindow_166 ?_
              refine g_ws (ws' := [cO_rri e0 4 t0 r0 (((((((to0 + 1) + 1) + 1) + 1) + 1) + 1) + 1), cO_riirrr t0 9 t_bytes ts tk t_kinds t_places t_values, cA Z t_kinds 0 401 Tk, cA Z t_values 0 401 Tv, cO_rirrrrrrirrr r0 6 w0 y27 r_doors r_openingWalls r_froms r_tos r_lowers r_uppers rs r_standWalls r_standXs r_standYs, cO_rrrrrrii w0 10 w_begins w_lengths w_lefts w_rights w_leans w_leaning wn wr, cA Z w_lengths 0 8 Wl, cA Z w_lefts 0 8 Wh, cA Z w_rights 0 8 Wk, cA Z r_doors 2 8 F21, cA Z r_openingWalls 0 8 F22, cA Z r_froms 0 8 F23, cA Z r_tos 0 8 F24, cA Z r_lowers 0 8 F25, cA Z r_uppers 0 8 F26]) [5, 6, 7, 4, 8, 1, 0, 2, 3, 9, 10, 11, 12, 13, 14] (by decide) rfl ?_
              exact g_zret (pc := 167) X hA (rfl) (⟨F21, F22, F23, F24, F25, F26, (((((((to0 + 1) + 1) + 1) + 1) + 1) + 1) + 1), y27, 1, rfl, rfl, (by omega), (hf163_b_ro2), (by omega), (hf163_h_Rd2), (hf163_h_Rw2), (hf163_h_Rf2), (hf163_h_Rt2), (hf163_h_Rl2), (hf163_h_Ru2), (by omega), (by omega), (by omega), (by have q := wiC_ok (K := aK) (V := aV) (t := to0) (nw := wn) (L := Wl) (H := Wh) (Q := Wk) (by omega) (by omega) (by omega) (by omega) (by omega) (by omega); omega), (fun _ => hf163_f1), (fun _ => hf163_e0), (fun _ => hf163_e1), (fun _ => hf163_e2), (fun _ => hf163_e3), (fun _ => hf163_e4), (fun _ => hf163_e5)⟩) (by decide) (by decide) dX4_readWindow_167

set_option maxHeartbeats 4000000 in
set_option maxRecDepth 100000 in
theorem kx_X4_readLean (l : Launch) (Z : gZ) (e0 : Nat) (t0 : Nat) (r0 : Nat) (t_bytes : Nat) (t_kinds : Nat) (t_places : Nat) (t_values : Nat) (w0 : Nat) (r_doors : Nat) (r_openingWalls : Nat) (r_froms : Nat) (r_tos : Nat) (r_lowers : Nat) (r_uppers : Nat) (r_standWalls : Nat) (r_standXs : Nat) (r_standYs : Nat) (w_begins : Nat) (w_lengths : Nat) (w_lefts : Nat) (w_rights : Nat) (w_leans : Nat) (w_leaning : Nat) (aK : Nat → Int) (aV : Nat → Int) (Tk : Nat → Int) (Tv : Nat → Int) (Wm : Nat → Int) (Wz : Nat → Int) (to0 : Int) (ts : Int) (tk : Int) (ro : Int) (rs : Int) (wn : Int) (wr : Int) (b_to0 : 0 ≤ to0 ∧ to0 ≤ 401) (b_ts : 0 ≤ ts ∧ ts ≤ 400) (b_tk : 0 ≤ tk ∧ tk ≤ 401) (b_ro : 0 ≤ ro ∧ ro ≤ 8) (b_rs : 0 ≤ rs ∧ rs ≤ 4) (b_wn : 0 ≤ wn ∧ wn ≤ 8) (b_wr : 0 ≤ wr ∧ wr ≤ 4800) (hK : ∀ j : Nat, (j : Int) < tk → Tk j = aK j) (hV : ∀ j : Nat, (j : Int) < tk → Tv j = aV j) (hO : ∀ j : Nat, (j : Int) < tk → aK j ≠ 10 → (j : Int) + 1 < tk) (hn : to0 < tk) (hk : aK to0.toNat ≠ 10) (h_Tk : ∀ j, j < 401 → 0 ≤ Tk j ∧ Tk j ≤ 10) (h_Tv : ∀ j, j < 401 → 0 ≤ Tv j ∧ Tv j ≤ 100000) (h_Wm : ∀ j, j < 8 → (-50) ≤ Wm j ∧ Wm j ≤ 50) (h_Wz : ∀ j, j < 8 → 0 ≤ Wz j ∧ Wz j ≤ 1) : Con l Z yX4_readLean cX4_readLean 4 (some .boolean) 2 44 0 0 [.ref e0] [cO_rri e0 4 t0 r0 to0, cO_riirrr t0 9 t_bytes ts tk t_kinds t_places t_values, cA Z t_kinds 0 401 Tk, cA Z t_values 0 401 Tv, cO_rirrrrrrirrr r0 6 w0 ro r_doors r_openingWalls r_froms r_tos r_lowers r_uppers rs r_standWalls r_standXs r_standYs, cO_rrrrrrii w0 10 w_begins w_lengths w_lefts w_rights w_leans w_leaning wn wr, cA Z w_leans 0 8 Wm, cA Z w_leaning 2 8 Wz] (fun r w' => ∃ (Wm2 : Nat → Int) (Wz2 : Nat → Int) (to2 : Int) (y : Int), (r = some (.int (iI y))) ∧ (w' = [cO_rri e0 4 t0 r0 to2, cO_riirrr t0 9 t_bytes ts tk t_kinds t_places t_values, cA Z t_kinds 0 401 Tk, cA Z t_values 0 401 Tv, cO_rirrrrrrirrr r0 6 w0 ro r_doors r_openingWalls r_froms r_tos r_lowers r_uppers rs r_standWalls r_standXs r_standYs, cO_rrrrrrii w0 10 w_begins w_lengths w_lefts w_rights w_leans w_leaning wn wr, cA Z w_leans 0 8 Wm2, cA Z w_leaning 2 8 Wz2]) ∧ (0 ≤ to2 ∧ to2 ≤ 401) ∧ (0 ≤ y ∧ y ≤ 1) ∧ (∀ j, j < 8 → (-50) ≤ Wm2 j ∧ Wm2 j ≤ 50) ∧ (∀ j, j < 8 → 0 ≤ Wz2 j ∧ Wz2 j ≤ 1) ∧ (to2 < tk) ∧ (to0 < to2) ∧ (y = 1 → to0 + 2 ≤ to2) ∧ ((y = 1 ∧ leC aK aV wn Wz to0 = -1 - to2) ∨ (y = 0 ∧ leC aK aV wn Wz to0 = to2)) ∧ (y = 1 → Wm2 = updI Wm (aV (to0 + 1).toNat).toNat (lnM aK aV to0)) ∧ (y = 1 → Wz2 = updI Wz (aV (to0 + 1).toNat).toNat 1)) := by
  refine enter (by decide) (Nat.le_of_ble_eq_true rfl) ?_
  intro p e s m args below meth c A X hnm hA
  have X : Cx p s m args meth c cX4_readLean 4 (some .boolean) RX4 Z A := X
  refine g_as (pc' := 0) (lv' := [(0, .ref e0)]) (st' := []) (ws' := [cO_rri e0 4 t0 r0 to0, cO_riirrr t0 9 t_bytes ts tk t_kinds t_places t_values, cA Z t_kinds 0 401 Tk, cA Z t_values 0 401 Tv, cO_rirrrrrrirrr r0 6 w0 ro r_doors r_openingWalls r_froms r_tos r_lowers r_uppers rs r_standWalls r_standXs r_standYs, cO_rrrrrrii w0 10 w_begins w_lengths w_lefts w_rights w_leans w_leaning wn wr, cA Z w_leans 0 8 Wm, cA Z w_leaning 2 8 Wz]) rfl rfl rfl rfl ?_
  have qo := hO to0.toNat (by (first | (clear b_ts b_ro b_rs b_wr; omega) | omega)) hk
  have qk1 := hK (to0 + 1).toNat (by (first | (clear b_ts b_ro b_rs b_wr; omega) | omega))
  refine g_aload_n (pc := 0) X 0 rfl dX4_readLean_0 ?_
  refine g_dup (pc := 1) X rfl dX4_readLean_1 ?_
  refine g_get (pc := 2) X inlX4 0 rfl rfl 2 (by decide) mw_12_0 rfl dX4_readLean_2 ?_
  refine g_iconst (pc := 5) X (iI 1) (by rfl) dX4_readLean_5 ?_
  refine g_iaddI (pc := 6) X dX4_readLean_6 ?_
  refine g_put (pc := 7) X inlX4 tyX4_ok nmX4 0 rfl rfl 2 (by decide) mw_12_0 rfl rfl rfl (Nat.le_of_ble_eq_true rfl) (ws' := [cO_rri e0 4 t0 r0 (to0 + 1), cO_riirrr t0 9 t_bytes ts tk t_kinds t_places t_values, cA Z t_kinds 0 401 Tk, cA Z t_values 0 401 Tv, cO_rirrrrrrirrr r0 6 w0 ro r_doors r_openingWalls r_froms r_tos r_lowers r_uppers rs r_standWalls r_standXs r_standYs, cO_rrrrrrii w0 10 w_begins w_lengths w_lefts w_rights w_leans w_leaning wn wr, cA Z w_leans 0 8 Wm, cA Z w_leaning 2 8 Wz]) rfl dX4_readLean_7 ?_
  refine g_aload_n (pc := 10) X 0 rfl dX4_readLean_10 ?_
  refine g_bipush (pc := 11) X (iI 6) (by decide) dX4_readLean_11 ?_
  refine g_callV (pc := 13) X (kx_X4_isNext l Z e0 t0 r0 t_bytes t_kinds t_places t_values aK Tk 6 (to0 + 1) ts tk (by decide) (by (first | (clear b_ts b_ro b_rs b_wr; omega) | omega)) b_ts b_tk (hK) (by (first | (clear b_ts b_ro b_rs b_wr; omega) | omega)) (h_Tk)) iM_X4_isNext mw_16_6 mw_16_7 mw_16_8 0 rfl rfl [0, 1, 2] [3, 4, 5, 6, 7] rfl (wr := [cA Z t_values 0 401 Tv, cO_rirrrrrrirrr r0 6 w0 ro r_doors r_openingWalls r_froms r_tos r_lowers r_uppers rs r_standWalls r_standXs r_standYs, cO_rrrrrrii w0 10 w_begins w_lengths w_lefts w_rights w_leans w_leaning wn wr, cA Z w_leans 0 8 Wm, cA Z w_leaning 2 8 Wz]) rfl (by decide) rfl rfl (Nat.le_of_ble_eq_true rfl) (by decide) dX4_readLean_13 (fun r w' hpo => ?_)
  obtain ⟨rfl, rfl⟩ := hpo
  refine g_as (pc' := 16) (lv' := [(0, .ref e0)]) (st' := [.int (iI (bI (aK (to0 + 1).toNat = 6)))]) (ws' := [cA Z t_values 0 401 Tv, cO_rirrrrrrirrr r0 6 w0 ro r_doors r_openingWalls r_froms r_tos r_lowers r_uppers rs r_standWalls r_standXs r_standYs, cO_rrrrrrii w0 10 w_begins w_lengths w_lefts w_rights w_leans w_leaning wn wr, cA Z w_leans 0 8 Wm, cA Z w_leaning 2 8 Wz, cO_rri e0 4 t0 r0 (to0 + 1), cO_riirrr t0 9 t_bytes ts tk t_kinds t_places t_values, cA Z t_kinds 0 401 Tk]) rfl rfl rfl rfl ?_
  refine g_if_eqB (pc := 16) X 46 (by decide) dX4_readLean_16 (fun c16 => ?_) (fun c16 => ?_)
  · refine g_aload_n (pc := 46) X 0 rfl dX4_readLean_46 ?_
    refine g_iconst (pc := 47) X (iI 0) (by rfl) dX4_readLean_47 ?_
    refine g_aload_n (pc := 48) X 0 rfl dX4_readLean_48 ?_
    refine g_get (pc := 49) X inlX4 5 rfl rfl 1 (by decide) mw_12_1 rfl dX4_readLean_49 ?_
    refine g_get (pc := 52) X inlX6 1 rfl rfl 0 (by decide) mw_12_2 rfl dX4_readLean_52 ?_
    refine g_get (pc := 55) X inlX10 2 rfl rfl 6 (by decide) mw_12_3 rfl dX4_readLean_55 ?_
    refine g_iconst (pc := 58) X (iI 1) (by rfl) dX4_readLean_58 ?_
    refine g_isubI (pc := 59) X dX4_readLean_59 ?_
    refine g_callV (pc := 60) X (kx_X4_readNumber l Z e0 t0 r0 t_bytes t_kinds t_places t_values aK aV Tk Tv 0 (wn - 1) (to0 + 1) ts tk (by decide) (by (first | (clear b_ts b_ro b_rs b_wr; omega) | omega)) (by (first | (clear b_ts b_ro b_rs b_wr; omega) | omega)) b_ts b_tk (hK) (hV) (hO) (by (first | (clear b_ts b_ro b_rs b_wr; omega) | omega)) (h_Tk) (h_Tv)) iM_X4_readNumber mw_16_22 mw_16_23 mw_17_0 5 rfl rfl [5, 6, 7, 0] [1, 2, 3, 4] rfl (wr := [cO_rirrrrrrirrr r0 6 w0 ro r_doors r_openingWalls r_froms r_tos r_lowers r_uppers rs r_standWalls r_standXs r_standYs, cO_rrrrrrii w0 10 w_begins w_lengths w_lefts w_rights w_leans w_leaning wn wr, cA Z w_leans 0 8 Wm, cA Z w_leaning 2 8 Wz]) rfl (by decide) rfl rfl (Nat.le_of_ble_eq_true rfl) (by decide) dX4_readLean_60 (fun r w' hpo => ?_)
    rcases hpo with hp0 | hp1
    · obtain ⟨rfl, rfl, hf60_f1⟩ := hp0
      refine g_as (pc' := 63) (lv' := [(0, .ref e0)]) (st' := [.int (iI (-1))]) (ws' := [cO_rirrrrrrirrr r0 6 w0 ro r_doors r_openingWalls r_froms r_tos r_lowers r_uppers rs r_standWalls r_standXs r_standYs, cO_rrrrrrii w0 10 w_begins w_lengths w_lefts w_rights w_leans w_leaning wn wr, cA Z w_leans 0 8 Wm, cA Z w_leaning 2 8 Wz, cO_rri e0 4 t0 r0 (to0 + 1), cO_riirrr t0 9 t_bytes ts tk t_kinds t_places t_values, cA Z t_kinds 0 401 Tk, cA Z t_values 0 401 Tv]) rfl rfl rfl rfl ?_
      refine g_istore_n (pc := 63) X (i := 1) rfl (by decide) (lv' := [(1, .int (iI (-1))), (0, .ref e0)]) rfl dX4_readLean_63 ?_
      refine g_iload_n (pc := 64) X 0 rfl dX4_readLean_64 ?_
      refine g_iconst (pc := 65) X (iI (-1)) (by rfl) dX4_readLean_65 ?_
      refine g_icmp_neI (pc := 66) X 71 (by decide) ⟨by decide, by decide⟩ ⟨by decide, by decide⟩ dX4_readLean_66 (fun h => absurd h (by decide)) (fun _ => ?_)
      refine g_iconst (pc := 69) X (iI 0) (by rfl) dX4_readLean_69 ?_
      refine g_ws (ws' := [cO_rri e0 4 t0 r0 (to0 + 1), cO_riirrr t0 9 t_bytes ts tk t_kinds t_places t_values, cA Z t_kinds 0 401 Tk, cA Z t_values 0 401 Tv, cO_rirrrrrrirrr r0 6 w0 ro r_doors r_openingWalls r_froms r_tos r_lowers r_uppers rs r_standWalls r_standXs r_standYs, cO_rrrrrrii w0 10 w_begins w_lengths w_lefts w_rights w_leans w_leaning wn wr, cA Z w_leans 0 8 Wm, cA Z w_leaning 2 8 Wz]) [4, 5, 6, 7, 0, 1, 2, 3] (by decide) rfl ?_
      exact g_zret (pc := 70) X hA (rfl) (⟨Wm, Wz, (to0 + 1), 0, rfl, rfl, (by (first | (clear b_ts b_ro b_rs b_wr; omega) | omega)), (by (first | (clear b_ts b_ro b_rs b_wr; omega) | omega)), (h_Wm), (h_Wz), (by (first | (clear b_ts b_ro b_rs b_wr; omega) | omega)), (by (first | (clear b_ts b_ro b_rs b_wr; omega) | omega)), (by (first | (clear b_ts b_ro b_rs b_wr; omega) | omega)), (by have q := leC_1 (K := aK) (V := aV) (t := to0) (nw := wn) (Y := Wz) (by (first | (clear b_ts b_ro b_rs b_wr; omega) | omega)); omega), (fun h => absurd h (by decide)), (fun h => absurd h (by decide))⟩) (by decide) (by decide) dX4_readLean_70
    · refine anD_5 hp1 fun e_r e_w hf60_f1 hf60_f3 hf60_fb => ?_; clear hp1; subst e_r; subst e_w
      refine g_as (pc' := 63) (lv' := [(0, .ref e0)]) (st' := [.int (iI (aV (to0 + 1).toNat))]) (ws' := [cO_rirrrrrrirrr r0 6 w0 ro r_doors r_openingWalls r_froms r_tos r_lowers r_uppers rs r_standWalls r_standXs r_standYs, cO_rrrrrrii w0 10 w_begins w_lengths w_lefts w_rights w_leans w_leaning wn wr, cA Z w_leans 0 8 Wm, cA Z w_leaning 2 8 Wz, cO_rri e0 4 t0 r0 ((to0 + 1) + 1), cO_riirrr t0 9 t_bytes ts tk t_kinds t_places t_values, cA Z t_kinds 0 401 Tk, cA Z t_values 0 401 Tv]) rfl rfl rfl rfl ?_
      have tt4 : 0 ≤ aV (to0 + 1).toNat ∧ aV (to0 + 1).toNat ≤ 7 := by (first | (clear b_ts b_ro b_rs b_wr; omega) | omega)
      exfalso; omega
  · refine g_aload_n (pc := 19) X 0 rfl dX4_readLean_19 ?_
    refine g_get (pc := 20) X inlX4 5 rfl rfl 1 (by decide) mw_12_1 rfl dX4_readLean_20 ?_
    refine g_get (pc := 23) X inlX6 1 rfl rfl 0 (by decide) mw_12_2 rfl dX4_readLean_23 ?_
    refine g_aload_n (pc := 26) X 0 rfl dX4_readLean_26 ?_
    refine g_get (pc := 27) X inlX4 5 rfl rfl 0 (by decide) mw_3_20 rfl dX4_readLean_27 ?_
    refine g_get (pc := 30) X inlX9 6 rfl rfl 5 (by decide) mw_17_2 rfl dX4_readLean_30 ?_
    refine g_aload_n (pc := 33) X 0 rfl dX4_readLean_33 ?_
    refine g_get (pc := 34) X inlX4 5 rfl rfl 2 (by decide) mw_12_0 rfl dX4_readLean_34 ?_
    refine g_ialdI (pc := 37) X 0 rfl (by (first | (clear b_ts b_ro b_rs b_wr; omega) | omega)) (by (first | (clear b_ts b_ro b_rs b_wr; omega) | omega)) (by (first | (clear b_ts b_ro b_rs b_wr; omega) | omega)) dX4_readLean_37 ?_
    refine g_nameI (fun y5 ey5 => ?_)
    have by5 : 0 ≤ y5 ∧ y5 ≤ 100000 := by rw [ey5]; exact h_Tv _ (by (first | (clear b_ts b_ro b_rs b_wr; omega) | omega))
    have qs6 : y5 = aV (to0 + 1).toNat := by have := hV (to0 + 1).toNat (by (first | (clear b_ts b_ro b_rs b_wr; omega) | omega)); omega
    subst qs6
    refine g_callV (pc := 38) X (kx_X10_leansAt l Z w0 w_begins w_lengths w_lefts w_rights w_leans w_leaning Wz (aV (to0 + 1).toNat) wn wr (by (first | (clear b_ts b_ro b_rs b_wr; omega) | omega)) b_wn b_wr (h_Wz)) iM_X10_leansAt mw_18_16 mw_18_17 mw_18_18 2 rfl rfl [2, 4] [0, 1, 3, 5, 6, 7] rfl (wr := [cA Z t_values 0 401 Tv, cO_rirrrrrrirrr r0 6 w0 ro r_doors r_openingWalls r_froms r_tos r_lowers r_uppers rs r_standWalls r_standXs r_standYs, cA Z w_leans 0 8 Wm, cO_rri e0 4 t0 r0 (to0 + 1), cO_riirrr t0 9 t_bytes ts tk t_kinds t_places t_values, cA Z t_kinds 0 401 Tk]) rfl (by decide) rfl rfl (Nat.le_of_ble_eq_true rfl) (by decide) dX4_readLean_38 (fun r w' hpo => ?_)
    obtain ⟨rfl, rfl⟩ := hpo
    refine g_as (pc' := 41) (lv' := [(0, .ref e0)]) (st' := [.int (iI (bI (0 ≤ (aV (to0 + 1).toNat) ∧ (aV (to0 + 1).toNat) < wn ∧ Wz (aV (to0 + 1).toNat).toNat = 1)))]) (ws' := [cA Z t_values 0 401 Tv, cO_rirrrrrrirrr r0 6 w0 ro r_doors r_openingWalls r_froms r_tos r_lowers r_uppers rs r_standWalls r_standXs r_standYs, cA Z w_leans 0 8 Wm, cO_rri e0 4 t0 r0 (to0 + 1), cO_riirrr t0 9 t_bytes ts tk t_kinds t_places t_values, cA Z t_kinds 0 401 Tk, cO_rrrrrrii w0 10 w_begins w_lengths w_lefts w_rights w_leans w_leaning wn wr, cA Z w_leaning 2 8 Wz]) rfl rfl rfl rfl ?_
    refine g_if_eqB (pc := 41) X 46 (by decide) dX4_readLean_41 (fun c41 => ?_) (fun c41 => ?_)
    · refine g_aload_n (pc := 46) X 0 rfl dX4_readLean_46 ?_
      refine g_iconst (pc := 47) X (iI 0) (by rfl) dX4_readLean_47 ?_
      refine g_aload_n (pc := 48) X 0 rfl dX4_readLean_48 ?_
      refine g_get (pc := 49) X inlX4 3 rfl rfl 1 (by decide) mw_12_1 rfl dX4_readLean_49 ?_
      refine g_get (pc := 52) X inlX6 1 rfl rfl 0 (by decide) mw_12_2 rfl dX4_readLean_52 ?_
      refine g_get (pc := 55) X inlX10 6 rfl rfl 6 (by decide) mw_12_3 rfl dX4_readLean_55 ?_
      refine g_iconst (pc := 58) X (iI 1) (by rfl) dX4_readLean_58 ?_
      refine g_isubI (pc := 59) X dX4_readLean_59 ?_
      refine g_callV (pc := 60) X (kx_X4_readNumber l Z e0 t0 r0 t_bytes t_kinds t_places t_values aK aV Tk Tv 0 (wn - 1) (to0 + 1) ts tk (by decide) (by (first | (clear b_ts b_ro b_rs b_wr; omega) | omega)) (by (first | (clear b_ts b_ro b_rs b_wr; omega) | omega)) b_ts b_tk (hK) (hV) (hO) (by (first | (clear b_ts b_ro b_rs b_wr; omega) | omega)) (h_Tk) (h_Tv)) iM_X4_readNumber mw_16_22 mw_16_23 mw_17_0 3 rfl rfl [3, 4, 5, 0] [1, 2, 6, 7] rfl (wr := [cO_rirrrrrrirrr r0 6 w0 ro r_doors r_openingWalls r_froms r_tos r_lowers r_uppers rs r_standWalls r_standXs r_standYs, cA Z w_leans 0 8 Wm, cO_rrrrrrii w0 10 w_begins w_lengths w_lefts w_rights w_leans w_leaning wn wr, cA Z w_leaning 2 8 Wz]) rfl (by decide) rfl rfl (Nat.le_of_ble_eq_true rfl) (by decide) dX4_readLean_60 (fun r w' hpo => ?_)
      rcases hpo with hp0 | hp1
      · obtain ⟨rfl, rfl, hf60_f1⟩ := hp0
        refine g_as (pc' := 63) (lv' := [(0, .ref e0)]) (st' := [.int (iI (-1))]) (ws' := [cO_rirrrrrrirrr r0 6 w0 ro r_doors r_openingWalls r_froms r_tos r_lowers r_uppers rs r_standWalls r_standXs r_standYs, cA Z w_leans 0 8 Wm, cO_rrrrrrii w0 10 w_begins w_lengths w_lefts w_rights w_leans w_leaning wn wr, cA Z w_leaning 2 8 Wz, cO_rri e0 4 t0 r0 (to0 + 1), cO_riirrr t0 9 t_bytes ts tk t_kinds t_places t_values, cA Z t_kinds 0 401 Tk, cA Z t_values 0 401 Tv]) rfl rfl rfl rfl ?_
        refine g_istore_n (pc := 63) X (i := 1) rfl (by decide) (lv' := [(1, .int (iI (-1))), (0, .ref e0)]) rfl dX4_readLean_63 ?_
        refine g_iload_n (pc := 64) X 0 rfl dX4_readLean_64 ?_
        refine g_iconst (pc := 65) X (iI (-1)) (by rfl) dX4_readLean_65 ?_
        refine g_icmp_neI (pc := 66) X 71 (by decide) ⟨by decide, by decide⟩ ⟨by decide, by decide⟩ dX4_readLean_66 (fun h => absurd h (by decide)) (fun _ => ?_)
        refine g_iconst (pc := 69) X (iI 0) (by rfl) dX4_readLean_69 ?_
        refine g_ws (ws' := [cO_rri e0 4 t0 r0 (to0 + 1), cO_riirrr t0 9 t_bytes ts tk t_kinds t_places t_values, cA Z t_kinds 0 401 Tk, cA Z t_values 0 401 Tv, cO_rirrrrrrirrr r0 6 w0 ro r_doors r_openingWalls r_froms r_tos r_lowers r_uppers rs r_standWalls r_standXs r_standYs, cO_rrrrrrii w0 10 w_begins w_lengths w_lefts w_rights w_leans w_leaning wn wr, cA Z w_leans 0 8 Wm, cA Z w_leaning 2 8 Wz]) [4, 5, 6, 7, 0, 2, 1, 3] (by decide) rfl ?_
        exact g_zret (pc := 70) X hA (rfl) (⟨Wm, Wz, (to0 + 1), 0, rfl, rfl, (by (first | (clear b_ts b_ro b_rs b_wr; omega) | omega)), (by (first | (clear b_ts b_ro b_rs b_wr; omega) | omega)), (h_Wm), (h_Wz), (by (first | (clear b_ts b_ro b_rs b_wr; omega) | omega)), (by (first | (clear b_ts b_ro b_rs b_wr; omega) | omega)), (by (first | (clear b_ts b_ro b_rs b_wr; omega) | omega)), (by have q := leC_1 (K := aK) (V := aV) (t := to0) (nw := wn) (Y := Wz) (by (first | (clear b_ts b_ro b_rs b_wr; omega) | omega)); omega), (fun h => absurd h (by decide)), (fun h => absurd h (by decide))⟩) (by decide) (by decide) dX4_readLean_70
      · refine anD_5 hp1 fun e_r e_w hf60_f1 hf60_f3 hf60_fb => ?_; clear hp1; subst e_r; subst e_w
        refine g_as (pc' := 63) (lv' := [(0, .ref e0)]) (st' := [.int (iI (aV (to0 + 1).toNat))]) (ws' := [cO_rirrrrrrirrr r0 6 w0 ro r_doors r_openingWalls r_froms r_tos r_lowers r_uppers rs r_standWalls r_standXs r_standYs, cA Z w_leans 0 8 Wm, cO_rrrrrrii w0 10 w_begins w_lengths w_lefts w_rights w_leans w_leaning wn wr, cA Z w_leaning 2 8 Wz, cO_rri e0 4 t0 r0 ((to0 + 1) + 1), cO_riirrr t0 9 t_bytes ts tk t_kinds t_places t_values, cA Z t_kinds 0 401 Tk, cA Z t_values 0 401 Tv]) rfl rfl rfl rfl ?_
        have tt10 : 0 ≤ aV (to0 + 1).toNat ∧ aV (to0 + 1).toNat ≤ 7 := by (first | (clear b_ts b_ro b_rs b_wr; omega) | omega)
        refine g_istore_n (pc := 63) X (i := 1) rfl (by decide) (lv' := [(1, .int (iI (aV (to0 + 1).toNat))), (0, .ref e0)]) rfl dX4_readLean_63 ?_
        refine g_iload_n (pc := 64) X 0 rfl dX4_readLean_64 ?_
        refine g_iconst (pc := 65) X (iI (-1)) (by rfl) dX4_readLean_65 ?_
        refine g_icmp_neI (pc := 66) X 71 (by decide) ⟨by (first | (clear b_ts b_ro b_rs b_wr; omega) | omega), by (first | (clear b_ts b_ro b_rs b_wr; omega) | omega)⟩ ⟨by decide, by decide⟩ dX4_readLean_66 (fun c66 => ?_) (fun h => absurd h (by (first | (clear b_ts b_ro b_rs b_wr; omega) | omega)))
        have qz := h_Wz (aV (to0 + 1).toNat).toNat (by (first | (clear b_ts b_ro b_rs b_wr; omega) | omega))
        refine g_aload_n (pc := 71) X 1 rfl dX4_readLean_71 ?_
        refine g_bipush (pc := 72) X (iI 7) (by decide) dX4_readLean_72 ?_
        refine g_callV (pc := 74) X (kx_X4_readSign l Z e0 t0 r0 t_bytes t_kinds t_places t_values aK aV Tk 7 ((to0 + 1) + 1) ts tk (by decide) (by (first | (clear b_ts b_ro b_rs b_wr; omega) | omega)) b_ts b_tk (hK) (hO) (by (first | (clear b_ts b_ro b_rs b_wr; omega) | omega)) (by (first | (clear b_ts b_ro b_rs b_wr; omega) | omega)) (h_Tk)) iM_X4_readSign mw_17_3 mw_17_4 mw_17_5 4 rfl rfl [4, 5, 6] [0, 1, 2, 3, 7] rfl (wr := [cO_rirrrrrrirrr r0 6 w0 ro r_doors r_openingWalls r_froms r_tos r_lowers r_uppers rs r_standWalls r_standXs r_standYs, cA Z w_leans 0 8 Wm, cO_rrrrrrii w0 10 w_begins w_lengths w_lefts w_rights w_leans w_leaning wn wr, cA Z w_leaning 2 8 Wz, cA Z t_values 0 401 Tv]) rfl (by decide) rfl rfl (Nat.le_of_ble_eq_true rfl) (by decide) dX4_readLean_74 (fun r w' hpo => ?_)
        rcases hpo with hp0 | hp1
        · obtain ⟨rfl, rfl, hf74_f1⟩ := hp0
          refine g_as (pc' := 77) (lv' := [(1, .int (iI (aV (to0 + 1).toNat))), (0, .ref e0)]) (st' := [.int (iI 0)]) (ws' := [cO_rirrrrrrirrr r0 6 w0 ro r_doors r_openingWalls r_froms r_tos r_lowers r_uppers rs r_standWalls r_standXs r_standYs, cA Z w_leans 0 8 Wm, cO_rrrrrrii w0 10 w_begins w_lengths w_lefts w_rights w_leans w_leaning wn wr, cA Z w_leaning 2 8 Wz, cA Z t_values 0 401 Tv, cO_rri e0 4 t0 r0 ((to0 + 1) + 1), cO_riirrr t0 9 t_bytes ts tk t_kinds t_places t_values, cA Z t_kinds 0 401 Tk]) rfl rfl rfl rfl ?_
          refine g_if_eqI (pc := 77) X 84 (by decide) ⟨by decide, by decide⟩ dX4_readLean_77 (fun _ => ?_) (fun h => absurd h (by decide))
          refine g_iconst (pc := 84) X (iI 1) (by rfl) dX4_readLean_84 ?_
          refine g_istore_n (pc := 85) X (i := 2) rfl (by decide) (lv' := [(2, .int (iI 1)), (1, .int (iI (aV (to0 + 1).toNat))), (0, .ref e0)]) rfl dX4_readLean_85 ?_
          refine g_aload_n (pc := 86) X 2 rfl dX4_readLean_86 ?_
          refine g_iconst (pc := 87) X (iI 0) (by rfl) dX4_readLean_87 ?_
          refine g_bipush (pc := 88) X (iI 50) (by decide) dX4_readLean_88 ?_
          refine g_callV (pc := 90) X (kx_X4_readNumber l Z e0 t0 r0 t_bytes t_kinds t_places t_values aK aV Tk Tv 0 50 ((to0 + 1) + 1) ts tk (by decide) (by decide) (by (first | (clear b_ts b_ro b_rs b_wr; omega) | omega)) b_ts b_tk (hK) (hV) (hO) (by (first | (clear b_ts b_ro b_rs b_wr; omega) | omega)) (h_Tk) (h_Tv)) iM_X4_readNumber mw_16_22 mw_16_23 mw_17_0 5 rfl rfl [5, 6, 7, 4] [0, 1, 2, 3] rfl (wr := [cO_rirrrrrrirrr r0 6 w0 ro r_doors r_openingWalls r_froms r_tos r_lowers r_uppers rs r_standWalls r_standXs r_standYs, cA Z w_leans 0 8 Wm, cO_rrrrrrii w0 10 w_begins w_lengths w_lefts w_rights w_leans w_leaning wn wr, cA Z w_leaning 2 8 Wz]) rfl (by decide) rfl rfl (Nat.le_of_ble_eq_true rfl) (by decide) dX4_readLean_90 (fun r w' hpo => ?_)
          rcases hpo with hp0 | hp1
          · obtain ⟨rfl, rfl, hf90_f1⟩ := hp0
            refine g_as (pc' := 93) (lv' := [(2, .int (iI 1)), (1, .int (iI (aV (to0 + 1).toNat))), (0, .ref e0)]) (st' := [.int (iI (-1))]) (ws' := [cO_rirrrrrrirrr r0 6 w0 ro r_doors r_openingWalls r_froms r_tos r_lowers r_uppers rs r_standWalls r_standXs r_standYs, cA Z w_leans 0 8 Wm, cO_rrrrrrii w0 10 w_begins w_lengths w_lefts w_rights w_leans w_leaning wn wr, cA Z w_leaning 2 8 Wz, cO_rri e0 4 t0 r0 ((to0 + 1) + 1), cO_riirrr t0 9 t_bytes ts tk t_kinds t_places t_values, cA Z t_kinds 0 401 Tk, cA Z t_values 0 401 Tv]) rfl rfl rfl rfl ?_
            refine g_istore_n (pc := 93) X (i := 3) rfl (by decide) (lv' := [(3, .int (iI (-1))), (2, .int (iI 1)), (1, .int (iI (aV (to0 + 1).toNat))), (0, .ref e0)]) rfl dX4_readLean_93 ?_
            refine g_iload_n (pc := 94) X 0 rfl dX4_readLean_94 ?_
            refine g_iconst (pc := 95) X (iI (-1)) (by rfl) dX4_readLean_95 ?_
            refine g_icmp_eqI (pc := 96) X 108 (by decide) ⟨by decide, by decide⟩ ⟨by decide, by decide⟩ dX4_readLean_96 (fun _ => ?_) (fun h => absurd h (by decide))
            refine g_iconst (pc := 108) X (iI 0) (by rfl) dX4_readLean_108 ?_
            refine g_ws (ws' := [cO_rri e0 4 t0 r0 ((to0 + 1) + 1), cO_riirrr t0 9 t_bytes ts tk t_kinds t_places t_values, cA Z t_kinds 0 401 Tk, cA Z t_values 0 401 Tv, cO_rirrrrrrirrr r0 6 w0 ro r_doors r_openingWalls r_froms r_tos r_lowers r_uppers rs r_standWalls r_standXs r_standYs, cO_rrrrrrii w0 10 w_begins w_lengths w_lefts w_rights w_leans w_leaning wn wr, cA Z w_leans 0 8 Wm, cA Z w_leaning 2 8 Wz]) [4, 5, 6, 7, 0, 2, 1, 3] (by decide) rfl ?_
            exact g_zret (pc := 109) X hA (rfl) (⟨Wm, Wz, ((to0 + 1) + 1), 0, rfl, rfl, (by (first | (clear b_ts b_ro b_rs b_wr; omega) | omega)), (by (first | (clear b_ts b_ro b_rs b_wr; omega) | omega)), (h_Wm), (h_Wz), (by (first | (clear b_ts b_ro b_rs b_wr; omega) | omega)), (by (first | (clear b_ts b_ro b_rs b_wr; omega) | omega)), (by (first | (clear b_ts b_ro b_rs b_wr; omega) | omega)), (by have q := leC_p (K := aK) (V := aV) (t := to0) (nw := wn) (Y := Wz) (by (first | (clear b_ts b_ro b_rs b_wr; omega) | omega)); have q2 := lpC_2 (K := aK) (V := aV) (t := to0) (nw := wn) (Y := Wz) (by (first | (clear b_ts b_ro b_rs b_wr; omega) | omega)) (by (first | (clear b_ts b_ro b_rs b_wr; omega) | omega)); omega), (fun h => absurd h (by decide)), (fun h => absurd h (by decide))⟩) (by decide) (by decide) dX4_readLean_109
          · refine anD_5 hp1 fun e_r e_w hf90_f1 hf90_f3 hf90_fb => ?_; clear hp1; subst e_r; subst e_w
            refine g_as (pc' := 93) (lv' := [(2, .int (iI 1)), (1, .int (iI (aV (to0 + 1).toNat))), (0, .ref e0)]) (st' := [.int (iI (aV ((to0 + 1) + 1).toNat))]) (ws' := [cO_rirrrrrrirrr r0 6 w0 ro r_doors r_openingWalls r_froms r_tos r_lowers r_uppers rs r_standWalls r_standXs r_standYs, cA Z w_leans 0 8 Wm, cO_rrrrrrii w0 10 w_begins w_lengths w_lefts w_rights w_leans w_leaning wn wr, cA Z w_leaning 2 8 Wz, cO_rri e0 4 t0 r0 (((to0 + 1) + 1) + 1), cO_riirrr t0 9 t_bytes ts tk t_kinds t_places t_values, cA Z t_kinds 0 401 Tk, cA Z t_values 0 401 Tv]) rfl rfl rfl rfl ?_
            have tt14 : 0 ≤ aV ((to0 + 1) + 1).toNat ∧ aV ((to0 + 1) + 1).toNat ≤ 50 := by (first | (clear b_ts b_ro b_rs b_wr; omega) | omega)
            refine g_istore_n (pc := 93) X (i := 3) rfl (by decide) (lv' := [(3, .int (iI (aV ((to0 + 1) + 1).toNat))), (2, .int (iI 1)), (1, .int (iI (aV (to0 + 1).toNat))), (0, .ref e0)]) rfl dX4_readLean_93 ?_
            refine g_iload_n (pc := 94) X 0 rfl dX4_readLean_94 ?_
            refine g_iconst (pc := 95) X (iI (-1)) (by rfl) dX4_readLean_95 ?_
            refine g_icmp_eqI (pc := 96) X 108 (by decide) ⟨by (first | (clear b_ts b_ro b_rs b_wr; omega) | omega), by (first | (clear b_ts b_ro b_rs b_wr; omega) | omega)⟩ ⟨by decide, by decide⟩ dX4_readLean_96 (fun h => absurd h (by (first | (clear b_ts b_ro b_rs b_wr; omega) | omega))) (fun c96 => ?_)
            refine g_aload_n (pc := 99) X 3 rfl dX4_readLean_99 ?_
            refine g_bipush (pc := 100) X (iI 8) (by decide) dX4_readLean_100 ?_
            refine g_callV (pc := 102) X (kx_X4_readSign l Z e0 t0 r0 t_bytes t_kinds t_places t_values aK aV Tk 8 (((to0 + 1) + 1) + 1) ts tk (by decide) (by (first | (clear b_ts b_ro b_rs b_wr; omega) | omega)) b_ts b_tk (hK) (hO) (by (first | (clear b_ts b_ro b_rs b_wr; omega) | omega)) (by (first | (clear b_ts b_ro b_rs b_wr; omega) | omega)) (h_Tk)) iM_X4_readSign mw_17_3 mw_17_4 mw_17_5 4 rfl rfl [4, 5, 6] [0, 1, 2, 3, 7] rfl (wr := [cO_rirrrrrrirrr r0 6 w0 ro r_doors r_openingWalls r_froms r_tos r_lowers r_uppers rs r_standWalls r_standXs r_standYs, cA Z w_leans 0 8 Wm, cO_rrrrrrii w0 10 w_begins w_lengths w_lefts w_rights w_leans w_leaning wn wr, cA Z w_leaning 2 8 Wz, cA Z t_values 0 401 Tv]) rfl (by decide) rfl rfl (Nat.le_of_ble_eq_true rfl) (by decide) dX4_readLean_102 (fun r w' hpo => ?_)
            rcases hpo with hp0 | hp1
            · obtain ⟨rfl, rfl, hf102_f1⟩ := hp0
              refine g_as (pc' := 105) (lv' := [(3, .int (iI (aV ((to0 + 1) + 1).toNat))), (2, .int (iI 1)), (1, .int (iI (aV (to0 + 1).toNat))), (0, .ref e0)]) (st' := [.int (iI 0)]) (ws' := [cO_rirrrrrrirrr r0 6 w0 ro r_doors r_openingWalls r_froms r_tos r_lowers r_uppers rs r_standWalls r_standXs r_standYs, cA Z w_leans 0 8 Wm, cO_rrrrrrii w0 10 w_begins w_lengths w_lefts w_rights w_leans w_leaning wn wr, cA Z w_leaning 2 8 Wz, cA Z t_values 0 401 Tv, cO_rri e0 4 t0 r0 (((to0 + 1) + 1) + 1), cO_riirrr t0 9 t_bytes ts tk t_kinds t_places t_values, cA Z t_kinds 0 401 Tk]) rfl rfl rfl rfl ?_
              refine g_if_neI (pc := 105) X 110 (by decide) ⟨by decide, by decide⟩ dX4_readLean_105 (fun h => absurd h (by decide)) (fun _ => ?_)
              refine g_iconst (pc := 108) X (iI 0) (by rfl) dX4_readLean_108 ?_
              refine g_ws (ws' := [cO_rri e0 4 t0 r0 (((to0 + 1) + 1) + 1), cO_riirrr t0 9 t_bytes ts tk t_kinds t_places t_values, cA Z t_kinds 0 401 Tk, cA Z t_values 0 401 Tv, cO_rirrrrrrirrr r0 6 w0 ro r_doors r_openingWalls r_froms r_tos r_lowers r_uppers rs r_standWalls r_standXs r_standYs, cO_rrrrrrii w0 10 w_begins w_lengths w_lefts w_rights w_leans w_leaning wn wr, cA Z w_leans 0 8 Wm, cA Z w_leaning 2 8 Wz]) [5, 6, 7, 4, 0, 2, 1, 3] (by decide) rfl ?_
              exact g_zret (pc := 109) X hA (rfl) (⟨Wm, Wz, (((to0 + 1) + 1) + 1), 0, rfl, rfl, (by (first | (clear b_ts b_ro b_rs b_wr; omega) | omega)), (by (first | (clear b_ts b_ro b_rs b_wr; omega) | omega)), (h_Wm), (h_Wz), (by (first | (clear b_ts b_ro b_rs b_wr; omega) | omega)), (by (first | (clear b_ts b_ro b_rs b_wr; omega) | omega)), (by (first | (clear b_ts b_ro b_rs b_wr; omega) | omega)), (by have q := leC_p (K := aK) (V := aV) (t := to0) (nw := wn) (Y := Wz) (by (first | (clear b_ts b_ro b_rs b_wr; omega) | omega)); have q2 := lpC_3 (K := aK) (V := aV) (t := to0) (nw := wn) (Y := Wz) (by (first | (clear b_ts b_ro b_rs b_wr; omega) | omega)) (by (first | (clear b_ts b_ro b_rs b_wr; omega) | omega)) (by (first | (clear b_ts b_ro b_rs b_wr; omega) | omega)); omega), (fun h => absurd h (by decide)), (fun h => absurd h (by decide))⟩) (by decide) (by decide) dX4_readLean_109
            · refine anD_4 hp1 fun e_r e_w hf102_f1 hf102_f3 => ?_; clear hp1; subst e_r; subst e_w
              refine g_as (pc' := 105) (lv' := [(3, .int (iI (aV ((to0 + 1) + 1).toNat))), (2, .int (iI 1)), (1, .int (iI (aV (to0 + 1).toNat))), (0, .ref e0)]) (st' := [.int (iI 1)]) (ws' := [cO_rirrrrrrirrr r0 6 w0 ro r_doors r_openingWalls r_froms r_tos r_lowers r_uppers rs r_standWalls r_standXs r_standYs, cA Z w_leans 0 8 Wm, cO_rrrrrrii w0 10 w_begins w_lengths w_lefts w_rights w_leans w_leaning wn wr, cA Z w_leaning 2 8 Wz, cA Z t_values 0 401 Tv, cO_rri e0 4 t0 r0 ((((to0 + 1) + 1) + 1) + 1), cO_riirrr t0 9 t_bytes ts tk t_kinds t_places t_values, cA Z t_kinds 0 401 Tk]) rfl rfl rfl rfl ?_
              refine g_if_neI (pc := 105) X 110 (by decide) ⟨by decide, by decide⟩ dX4_readLean_105 (fun _ => ?_) (fun h => absurd h (by decide))
              refine g_aload_n (pc := 110) X 3 rfl dX4_readLean_110 ?_
              refine g_get (pc := 111) X inlX4 5 rfl rfl 1 (by decide) mw_12_1 rfl dX4_readLean_111 ?_
              refine g_get (pc := 114) X inlX6 0 rfl rfl 0 (by decide) mw_12_2 rfl dX4_readLean_114 ?_
              refine g_iload_n (pc := 117) X 2 rfl dX4_readLean_117 ?_
              refine g_iload_n (pc := 118) X 1 rfl dX4_readLean_118 ?_
              refine g_iload_n (pc := 119) X 0 rfl dX4_readLean_119 ?_
              refine g_imulI (pc := 120) X dX4_readLean_120 ?_
              refine g_callV (pc := 121) X (kx_X10_lean l Z w0 w_begins w_lengths w_lefts w_rights w_leans w_leaning Wm Wz (aV (to0 + 1).toNat) (1 * (aV ((to0 + 1) + 1).toNat)) wn wr (by (first | (clear b_ts b_ro b_rs b_wr; omega) | omega)) (by (first | (clear b_ts b_ro b_rs b_wr; omega) | omega)) b_wn b_wr (by (first | (clear b_ts b_ro b_rs b_wr; omega) | omega)) (h_Wm) (h_Wz)) iM_X10_lean mw_18_20 mw_18_21 mw_18_22 2 rfl rfl [2, 1, 3] [0, 4, 5, 6, 7] rfl (wr := [cO_rirrrrrrirrr r0 6 w0 ro r_doors r_openingWalls r_froms r_tos r_lowers r_uppers rs r_standWalls r_standXs r_standYs, cA Z t_values 0 401 Tv, cO_rri e0 4 t0 r0 ((((to0 + 1) + 1) + 1) + 1), cO_riirrr t0 9 t_bytes ts tk t_kinds t_places t_values, cA Z t_kinds 0 401 Tk]) rfl (by decide) rfl rfl (Nat.le_of_ble_eq_true rfl) (by decide) dX4_readLean_121 (fun r w' hpo => ?_)
              refine exN_2 hpo fun F17 F18 hz => anD_6 hz fun e_r e_w hf121_h_Wm2 hf121_h_Wz2 hf121_e1 hf121_e2 => ?_; clear hz hpo; subst e_r; subst e_w
              refine g_as (pc' := 124) (lv' := [(3, .int (iI (aV ((to0 + 1) + 1).toNat))), (2, .int (iI 1)), (1, .int (iI (aV (to0 + 1).toNat))), (0, .ref e0)]) (st' := []) (ws' := [cO_rirrrrrrirrr r0 6 w0 ro r_doors r_openingWalls r_froms r_tos r_lowers r_uppers rs r_standWalls r_standXs r_standYs, cA Z t_values 0 401 Tv, cO_rri e0 4 t0 r0 ((((to0 + 1) + 1) + 1) + 1), cO_riirrr t0 9 t_bytes ts tk t_kinds t_places t_values, cA Z t_kinds 0 401 Tk, cO_rrrrrrii w0 10 w_begins w_lengths w_lefts w_rights w_leans w_leaning wn wr, cA Z w_leans 0 8 F17, cA Z w_leaning 2 8 F18]) rfl rfl rfl rfl ?_
              refine g_iconst (pc := 124) X (iI 1) (by rfl) dX4_readLean_124 ?_
              refine g_ws (ws' := [cO_rri e0 4 t0 r0 ((((to0 + 1) + 1) + 1) + 1), cO_riirrr t0 9 t_bytes ts tk t_kinds t_places t_values, cA Z t_kinds 0 401 Tk, cA Z t_values 0 401 Tv, cO_rirrrrrrirrr r0 6 w0 ro r_doors r_openingWalls r_froms r_tos r_lowers r_uppers rs r_standWalls r_standXs r_standYs, cO_rrrrrrii w0 10 w_begins w_lengths w_lefts w_rights w_leans w_leaning wn wr, cA Z w_leans 0 8 F17, cA Z w_leaning 2 8 F18]) [2, 3, 4, 1, 0, 5, 6, 7] (by decide) rfl ?_
              exact g_zret (pc := 125) X hA (rfl) (⟨F17, F18, ((((to0 + 1) + 1) + 1) + 1), 1, rfl, rfl, (by (first | (clear b_ts b_ro b_rs b_wr; omega) | omega)), (by (first | (clear b_ts b_ro b_rs b_wr; omega) | omega)), (hf121_h_Wm2), (hf121_h_Wz2), (by (first | (clear b_ts b_ro b_rs b_wr; omega) | omega)), (by (first | (clear b_ts b_ro b_rs b_wr; omega) | omega)), (by (first | (clear b_ts b_ro b_rs b_wr; omega) | omega)), (by have q := leC_p (K := aK) (V := aV) (t := to0) (nw := wn) (Y := Wz) (by (first | (clear b_ts b_ro b_rs b_wr; omega) | omega)); have q2 := lpC_ok (K := aK) (V := aV) (t := to0) (nw := wn) (Y := Wz) (by (first | (clear b_ts b_ro b_rs b_wr; omega) | omega)) (by (first | (clear b_ts b_ro b_rs b_wr; omega) | omega)) (by (first | (clear b_ts b_ro b_rs b_wr; omega) | omega)); omega), (fun _ => by rw [lnM_p (K := aK) (V := aV) (t := to0) (by (first | (clear b_ts b_ro b_rs b_wr; omega) | omega))]; exact hf121_e1), (fun _ => hf121_e2)⟩) (by decide) (by decide) dX4_readLean_125
        · refine anD_4 hp1 fun e_r e_w hf74_f1 hf74_f3 => ?_; clear hp1; subst e_r; subst e_w
          refine g_as (pc' := 77) (lv' := [(1, .int (iI (aV (to0 + 1).toNat))), (0, .ref e0)]) (st' := [.int (iI 1)]) (ws' := [cO_rirrrrrrirrr r0 6 w0 ro r_doors r_openingWalls r_froms r_tos r_lowers r_uppers rs r_standWalls r_standXs r_standYs, cA Z w_leans 0 8 Wm, cO_rrrrrrii w0 10 w_begins w_lengths w_lefts w_rights w_leans w_leaning wn wr, cA Z w_leaning 2 8 Wz, cA Z t_values 0 401 Tv, cO_rri e0 4 t0 r0 (((to0 + 1) + 1) + 1), cO_riirrr t0 9 t_bytes ts tk t_kinds t_places t_values, cA Z t_kinds 0 401 Tk]) rfl rfl rfl rfl ?_
          refine g_if_eqI (pc := 77) X 84 (by decide) ⟨by decide, by decide⟩ dX4_readLean_77 (fun h => absurd h (by decide)) (fun _ => ?_)
          refine g_iconst (pc := 80) X (iI (-1)) (by rfl) dX4_readLean_80 ?_
          refine g_goto (pc := 81) X 85 (by decide) dX4_readLean_81 ?_
          refine g_istore_n (pc := 85) X (i := 2) rfl (by decide) (lv' := [(2, .int (iI (-1))), (1, .int (iI (aV (to0 + 1).toNat))), (0, .ref e0)]) rfl dX4_readLean_85 ?_
          refine g_aload_n (pc := 86) X 2 rfl dX4_readLean_86 ?_
          refine g_iconst (pc := 87) X (iI 0) (by rfl) dX4_readLean_87 ?_
          refine g_bipush (pc := 88) X (iI 50) (by decide) dX4_readLean_88 ?_
          refine g_callV (pc := 90) X (kx_X4_readNumber l Z e0 t0 r0 t_bytes t_kinds t_places t_values aK aV Tk Tv 0 50 (((to0 + 1) + 1) + 1) ts tk (by decide) (by decide) (by (first | (clear b_ts b_ro b_rs b_wr; omega) | omega)) b_ts b_tk (hK) (hV) (hO) (by (first | (clear b_ts b_ro b_rs b_wr; omega) | omega)) (h_Tk) (h_Tv)) iM_X4_readNumber mw_16_22 mw_16_23 mw_17_0 5 rfl rfl [5, 6, 7, 4] [0, 1, 2, 3] rfl (wr := [cO_rirrrrrrirrr r0 6 w0 ro r_doors r_openingWalls r_froms r_tos r_lowers r_uppers rs r_standWalls r_standXs r_standYs, cA Z w_leans 0 8 Wm, cO_rrrrrrii w0 10 w_begins w_lengths w_lefts w_rights w_leans w_leaning wn wr, cA Z w_leaning 2 8 Wz]) rfl (by decide) rfl rfl (Nat.le_of_ble_eq_true rfl) (by decide) dX4_readLean_90 (fun r w' hpo => ?_)
          rcases hpo with hp0 | hp1
          · obtain ⟨rfl, rfl, hf90_f1⟩ := hp0
            refine g_as (pc' := 93) (lv' := [(2, .int (iI (-1))), (1, .int (iI (aV (to0 + 1).toNat))), (0, .ref e0)]) (st' := [.int (iI (-1))]) (ws' := [cO_rirrrrrrirrr r0 6 w0 ro r_doors r_openingWalls r_froms r_tos r_lowers r_uppers rs r_standWalls r_standXs r_standYs, cA Z w_leans 0 8 Wm, cO_rrrrrrii w0 10 w_begins w_lengths w_lefts w_rights w_leans w_leaning wn wr, cA Z w_leaning 2 8 Wz, cO_rri e0 4 t0 r0 (((to0 + 1) + 1) + 1), cO_riirrr t0 9 t_bytes ts tk t_kinds t_places t_values, cA Z t_kinds 0 401 Tk, cA Z t_values 0 401 Tv]) rfl rfl rfl rfl ?_
            refine g_istore_n (pc := 93) X (i := 3) rfl (by decide) (lv' := [(3, .int (iI (-1))), (2, .int (iI (-1))), (1, .int (iI (aV (to0 + 1).toNat))), (0, .ref e0)]) rfl dX4_readLean_93 ?_
            refine g_iload_n (pc := 94) X 0 rfl dX4_readLean_94 ?_
            refine g_iconst (pc := 95) X (iI (-1)) (by rfl) dX4_readLean_95 ?_
            refine g_icmp_eqI (pc := 96) X 108 (by decide) ⟨by decide, by decide⟩ ⟨by decide, by decide⟩ dX4_readLean_96 (fun _ => ?_) (fun h => absurd h (by decide))
            refine g_iconst (pc := 108) X (iI 0) (by rfl) dX4_readLean_108 ?_
            refine g_ws (ws' := [cO_rri e0 4 t0 r0 (((to0 + 1) + 1) + 1), cO_riirrr t0 9 t_bytes ts tk t_kinds t_places t_values, cA Z t_kinds 0 401 Tk, cA Z t_values 0 401 Tv, cO_rirrrrrrirrr r0 6 w0 ro r_doors r_openingWalls r_froms r_tos r_lowers r_uppers rs r_standWalls r_standXs r_standYs, cO_rrrrrrii w0 10 w_begins w_lengths w_lefts w_rights w_leans w_leaning wn wr, cA Z w_leans 0 8 Wm, cA Z w_leaning 2 8 Wz]) [4, 5, 6, 7, 0, 2, 1, 3] (by decide) rfl ?_
            exact g_zret (pc := 109) X hA (rfl) (⟨Wm, Wz, (((to0 + 1) + 1) + 1), 0, rfl, rfl, (by (first | (clear b_ts b_ro b_rs b_wr; omega) | omega)), (by (first | (clear b_ts b_ro b_rs b_wr; omega) | omega)), (h_Wm), (h_Wz), (by (first | (clear b_ts b_ro b_rs b_wr; omega) | omega)), (by (first | (clear b_ts b_ro b_rs b_wr; omega) | omega)), (by (first | (clear b_ts b_ro b_rs b_wr; omega) | omega)), (by have q := leC_m (K := aK) (V := aV) (t := to0) (nw := wn) (Y := Wz) (by (first | (clear b_ts b_ro b_rs b_wr; omega) | omega)); have q2 := lmC_2 (K := aK) (V := aV) (t := to0) (nw := wn) (Y := Wz) (by (first | (clear b_ts b_ro b_rs b_wr; omega) | omega)) (by (first | (clear b_ts b_ro b_rs b_wr; omega) | omega)); omega), (fun h => absurd h (by decide)), (fun h => absurd h (by decide))⟩) (by decide) (by decide) dX4_readLean_109
          · refine anD_5 hp1 fun e_r e_w hf90_f1 hf90_f3 hf90_fb => ?_; clear hp1; subst e_r; subst e_w
            refine g_as (pc' := 93) (lv' := [(2, .int (iI (-1))), (1, .int (iI (aV (to0 + 1).toNat))), (0, .ref e0)]) (st' := [.int (iI (aV (((to0 + 1) + 1) + 1).toNat))]) (ws' := [cO_rirrrrrrirrr r0 6 w0 ro r_doors r_openingWalls r_froms r_tos r_lowers r_uppers rs r_standWalls r_standXs r_standYs, cA Z w_leans 0 8 Wm, cO_rrrrrrii w0 10 w_begins w_lengths w_lefts w_rights w_leans w_leaning wn wr, cA Z w_leaning 2 8 Wz, cO_rri e0 4 t0 r0 ((((to0 + 1) + 1) + 1) + 1), cO_riirrr t0 9 t_bytes ts tk t_kinds t_places t_values, cA Z t_kinds 0 401 Tk, cA Z t_values 0 401 Tv]) rfl rfl rfl rfl ?_
            have tt23 : 0 ≤ aV (((to0 + 1) + 1) + 1).toNat ∧ aV (((to0 + 1) + 1) + 1).toNat ≤ 50 := by (first | (clear b_ts b_ro b_rs b_wr; omega) | omega)
            refine g_istore_n (pc := 93) X (i := 3) rfl (by decide) (lv' := [(3, .int (iI (aV (((to0 + 1) + 1) + 1).toNat))), (2, .int (iI (-1))), (1, .int (iI (aV (to0 + 1).toNat))), (0, .ref e0)]) rfl dX4_readLean_93 ?_
            refine g_iload_n (pc := 94) X 0 rfl dX4_readLean_94 ?_
            refine g_iconst (pc := 95) X (iI (-1)) (by rfl) dX4_readLean_95 ?_
            refine g_icmp_eqI (pc := 96) X 108 (by decide) ⟨by (first | (clear b_ts b_ro b_rs b_wr; omega) | omega), by (first | (clear b_ts b_ro b_rs b_wr; omega) | omega)⟩ ⟨by decide, by decide⟩ dX4_readLean_96 (fun h => absurd h (by (first | (clear b_ts b_ro b_rs b_wr; omega) | omega))) (fun c96 => ?_)
            refine g_aload_n (pc := 99) X 3 rfl dX4_readLean_99 ?_
            refine g_bipush (pc := 100) X (iI 8) (by decide) dX4_readLean_100 ?_
            refine g_callV (pc := 102) X (kx_X4_readSign l Z e0 t0 r0 t_bytes t_kinds t_places t_values aK aV Tk 8 ((((to0 + 1) + 1) + 1) + 1) ts tk (by decide) (by (first | (clear b_ts b_ro b_rs b_wr; omega) | omega)) b_ts b_tk (hK) (hO) (by (first | (clear b_ts b_ro b_rs b_wr; omega) | omega)) (by (first | (clear b_ts b_ro b_rs b_wr; omega) | omega)) (h_Tk)) iM_X4_readSign mw_17_3 mw_17_4 mw_17_5 4 rfl rfl [4, 5, 6] [0, 1, 2, 3, 7] rfl (wr := [cO_rirrrrrrirrr r0 6 w0 ro r_doors r_openingWalls r_froms r_tos r_lowers r_uppers rs r_standWalls r_standXs r_standYs, cA Z w_leans 0 8 Wm, cO_rrrrrrii w0 10 w_begins w_lengths w_lefts w_rights w_leans w_leaning wn wr, cA Z w_leaning 2 8 Wz, cA Z t_values 0 401 Tv]) rfl (by decide) rfl rfl (Nat.le_of_ble_eq_true rfl) (by decide) dX4_readLean_102 (fun r w' hpo => ?_)
            rcases hpo with hp0 | hp1
            · obtain ⟨rfl, rfl, hf102_f1⟩ := hp0
              refine g_as (pc' := 105) (lv' := [(3, .int (iI (aV (((to0 + 1) + 1) + 1).toNat))), (2, .int (iI (-1))), (1, .int (iI (aV (to0 + 1).toNat))), (0, .ref e0)]) (st' := [.int (iI 0)]) (ws' := [cO_rirrrrrrirrr r0 6 w0 ro r_doors r_openingWalls r_froms r_tos r_lowers r_uppers rs r_standWalls r_standXs r_standYs, cA Z w_leans 0 8 Wm, cO_rrrrrrii w0 10 w_begins w_lengths w_lefts w_rights w_leans w_leaning wn wr, cA Z w_leaning 2 8 Wz, cA Z t_values 0 401 Tv, cO_rri e0 4 t0 r0 ((((to0 + 1) + 1) + 1) + 1), cO_riirrr t0 9 t_bytes ts tk t_kinds t_places t_values, cA Z t_kinds 0 401 Tk]) rfl rfl rfl rfl ?_
              refine g_if_neI (pc := 105) X 110 (by decide) ⟨by decide, by decide⟩ dX4_readLean_105 (fun h => absurd h (by decide)) (fun _ => ?_)
              refine g_iconst (pc := 108) X (iI 0) (by rfl) dX4_readLean_108 ?_
              refine g_ws (ws' := [cO_rri e0 4 t0 r0 ((((to0 + 1) + 1) + 1) + 1), cO_riirrr t0 9 t_bytes ts tk t_kinds t_places t_values, cA Z t_kinds 0 401 Tk, cA Z t_values 0 401 Tv, cO_rirrrrrrirrr r0 6 w0 ro r_doors r_openingWalls r_froms r_tos r_lowers r_uppers rs r_standWalls r_standXs r_standYs, cO_rrrrrrii w0 10 w_begins w_lengths w_lefts w_rights w_leans w_leaning wn wr, cA Z w_leans 0 8 Wm, cA Z w_leaning 2 8 Wz]) [5, 6, 7, 4, 0, 2, 1, 3] (by decide) rfl ?_
              exact g_zret (pc := 109) X hA (rfl) (⟨Wm, Wz, ((((to0 + 1) + 1) + 1) + 1), 0, rfl, rfl, (by (first | (clear b_ts b_ro b_rs b_wr; omega) | omega)), (by (first | (clear b_ts b_ro b_rs b_wr; omega) | omega)), (h_Wm), (h_Wz), (by (first | (clear b_ts b_ro b_rs b_wr; omega) | omega)), (by (first | (clear b_ts b_ro b_rs b_wr; omega) | omega)), (by (first | (clear b_ts b_ro b_rs b_wr; omega) | omega)), (by have q := leC_m (K := aK) (V := aV) (t := to0) (nw := wn) (Y := Wz) (by (first | (clear b_ts b_ro b_rs b_wr; omega) | omega)); have q2 := lmC_3 (K := aK) (V := aV) (t := to0) (nw := wn) (Y := Wz) (by (first | (clear b_ts b_ro b_rs b_wr; omega) | omega)) (by (first | (clear b_ts b_ro b_rs b_wr; omega) | omega)) (by (first | (clear b_ts b_ro b_rs b_wr; omega) | omega)); omega), (fun h => absurd h (by decide)), (fun h => absurd h (by decide))⟩) (by decide) (by decide) dX4_readLean_109
            · refine anD_4 hp1 fun e_r e_w hf102_f1 hf102_f3 => ?_; clear hp1; subst e_r; subst e_w
              refine g_as (pc' := 105) (lv' := [(3, .int (iI (aV (((to0 + 1) + 1) + 1).toNat))), (2, .int (iI (-1))), (1, .int (iI (aV (to0 + 1).toNat))), (0, .ref e0)]) (st' := [.int (iI 1)]) (ws' := [cO_rirrrrrrirrr r0 6 w0 ro r_doors r_openingWalls r_froms r_tos r_lowers r_uppers rs r_standWalls r_standXs r_standYs, cA Z w_leans 0 8 Wm, cO_rrrrrrii w0 10 w_begins w_lengths w_lefts w_rights w_leans w_leaning wn wr, cA Z w_leaning 2 8 Wz, cA Z t_values 0 401 Tv, cO_rri e0 4 t0 r0 (((((to0 + 1) + 1) + 1) + 1) + 1), cO_riirrr t0 9 t_bytes ts tk t_kinds t_places t_values, cA Z t_kinds 0 401 Tk]) rfl rfl rfl rfl ?_
              refine g_if_neI (pc := 105) X 110 (by decide) ⟨by decide, by decide⟩ dX4_readLean_105 (fun _ => ?_) (fun h => absurd h (by decide))
              refine g_aload_n (pc := 110) X 3 rfl dX4_readLean_110 ?_
              refine g_get (pc := 111) X inlX4 5 rfl rfl 1 (by decide) mw_12_1 rfl dX4_readLean_111 ?_
              refine g_get (pc := 114) X inlX6 0 rfl rfl 0 (by decide) mw_12_2 rfl dX4_readLean_114 ?_
              refine g_iload_n (pc := 117) X 2 rfl dX4_readLean_117 ?_
              refine g_iload_n (pc := 118) X 1 rfl dX4_readLean_118 ?_
              refine g_iload_n (pc := 119) X 0 rfl dX4_readLean_119 ?_
              refine g_imulI (pc := 120) X dX4_readLean_120 ?_
              refine g_callV (pc := 121) X (kx_X10_lean l Z w0 w_begins w_lengths w_lefts w_rights w_leans w_leaning Wm Wz (aV (to0 + 1).toNat) ((-1) * (aV (((to0 + 1) + 1) + 1).toNat)) wn wr (by (first | (clear b_ts b_ro b_rs b_wr; omega) | omega)) (by (first | (clear b_ts b_ro b_rs b_wr; omega) | omega)) b_wn b_wr (by (first | (clear b_ts b_ro b_rs b_wr; omega) | omega)) (h_Wm) (h_Wz)) iM_X10_lean mw_18_20 mw_18_21 mw_18_22 2 rfl rfl [2, 1, 3] [0, 4, 5, 6, 7] rfl (wr := [cO_rirrrrrrirrr r0 6 w0 ro r_doors r_openingWalls r_froms r_tos r_lowers r_uppers rs r_standWalls r_standXs r_standYs, cA Z t_values 0 401 Tv, cO_rri e0 4 t0 r0 (((((to0 + 1) + 1) + 1) + 1) + 1), cO_riirrr t0 9 t_bytes ts tk t_kinds t_places t_values, cA Z t_kinds 0 401 Tk]) rfl (by decide) rfl rfl (Nat.le_of_ble_eq_true rfl) (by decide) dX4_readLean_121 (fun r w' hpo => ?_)
              refine exN_2 hpo fun F26 F27 hz => anD_6 hz fun e_r e_w hf121_h_Wm2 hf121_h_Wz2 hf121_e1 hf121_e2 => ?_; clear hz hpo; subst e_r; subst e_w
              refine g_as (pc' := 124) (lv' := [(3, .int (iI (aV (((to0 + 1) + 1) + 1).toNat))), (2, .int (iI (-1))), (1, .int (iI (aV (to0 + 1).toNat))), (0, .ref e0)]) (st' := []) (ws' := [cO_rirrrrrrirrr r0 6 w0 ro r_doors r_openingWalls r_froms r_tos r_lowers r_uppers rs r_standWalls r_standXs r_standYs, cA Z t_values 0 401 Tv, cO_rri e0 4 t0 r0 (((((to0 + 1) + 1) + 1) + 1) + 1), cO_riirrr t0 9 t_bytes ts tk t_kinds t_places t_values, cA Z t_kinds 0 401 Tk, cO_rrrrrrii w0 10 w_begins w_lengths w_lefts w_rights w_leans w_leaning wn wr, cA Z w_leans 0 8 F26, cA Z w_leaning 2 8 F27]) rfl rfl rfl rfl ?_
              refine g_iconst (pc := 124) X (iI 1) (by rfl) dX4_readLean_124 ?_
              refine g_ws (ws' := [cO_rri e0 4 t0 r0 (((((to0 + 1) + 1) + 1) + 1) + 1), cO_riirrr t0 9 t_bytes ts tk t_kinds t_places t_values, cA Z t_kinds 0 401 Tk, cA Z t_values 0 401 Tv, cO_rirrrrrrirrr r0 6 w0 ro r_doors r_openingWalls r_froms r_tos r_lowers r_uppers rs r_standWalls r_standXs r_standYs, cO_rrrrrrii w0 10 w_begins w_lengths w_lefts w_rights w_leans w_leaning wn wr, cA Z w_leans 0 8 F26, cA Z w_leaning 2 8 F27]) [2, 3, 4, 1, 0, 5, 6, 7] (by decide) rfl ?_
              exact g_zret (pc := 125) X hA (rfl) (⟨F26, F27, (((((to0 + 1) + 1) + 1) + 1) + 1), 1, rfl, rfl, (by (first | (clear b_ts b_ro b_rs b_wr; omega) | omega)), (by (first | (clear b_ts b_ro b_rs b_wr; omega) | omega)), (hf121_h_Wm2), (hf121_h_Wz2), (by (first | (clear b_ts b_ro b_rs b_wr; omega) | omega)), (by (first | (clear b_ts b_ro b_rs b_wr; omega) | omega)), (by (first | (clear b_ts b_ro b_rs b_wr; omega) | omega)), (by have q := leC_m (K := aK) (V := aV) (t := to0) (nw := wn) (Y := Wz) (by (first | (clear b_ts b_ro b_rs b_wr; omega) | omega)); have q2 := lmC_ok (K := aK) (V := aV) (t := to0) (nw := wn) (Y := Wz) (by (first | (clear b_ts b_ro b_rs b_wr; omega) | omega)) (by (first | (clear b_ts b_ro b_rs b_wr; omega) | omega)) (by (first | (clear b_ts b_ro b_rs b_wr; omega) | omega)); omega), (fun _ => by rw [lnM_m (K := aK) (V := aV) (t := to0) (by (first | (clear b_ts b_ro b_rs b_wr; omega) | omega))]; exact hf121_e1), (fun _ => hf121_e2)⟩) (by decide) (by decide) dX4_readLean_125
    · refine g_iconst (pc := 44) X (iI 0) (by rfl) dX4_readLean_44 ?_
      refine g_ws (ws' := [cO_rri e0 4 t0 r0 (to0 + 1), cO_riirrr t0 9 t_bytes ts tk t_kinds t_places t_values, cA Z t_kinds 0 401 Tk, cA Z t_values 0 401 Tv, cO_rirrrrrrirrr r0 6 w0 ro r_doors r_openingWalls r_froms r_tos r_lowers r_uppers rs r_standWalls r_standXs r_standYs, cO_rrrrrrii w0 10 w_begins w_lengths w_lefts w_rights w_leans w_leaning wn wr, cA Z w_leans 0 8 Wm, cA Z w_leaning 2 8 Wz]) [3, 4, 5, 0, 1, 6, 2, 7] (by decide) rfl ?_
      exact g_zret (pc := 45) X hA (rfl) (⟨Wm, Wz, (to0 + 1), 0, rfl, rfl, (by (first | (clear b_ts b_ro b_rs b_wr; omega) | omega)), (by (first | (clear b_ts b_ro b_rs b_wr; omega) | omega)), (h_Wm), (h_Wz), (by (first | (clear b_ts b_ro b_rs b_wr; omega) | omega)), (by (first | (clear b_ts b_ro b_rs b_wr; omega) | omega)), (by (first | (clear b_ts b_ro b_rs b_wr; omega) | omega)), (by have q := leC_1 (K := aK) (V := aV) (t := to0) (nw := wn) (Y := Wz) (by (first | (clear b_ts b_ro b_rs b_wr; omega) | omega)); omega), (fun h => absurd h (by decide)), (fun h => absurd h (by decide))⟩) (by decide) (by decide) dX4_readLean_45

set_option maxHeartbeats 4000000 in
set_option maxRecDepth 100000 in
theorem kx_X4_readStand (l : Launch) (Z : gZ) (e0 : Nat) (t0 : Nat) (r0 : Nat) (t_bytes : Nat) (t_kinds : Nat) (t_places : Nat) (t_values : Nat) (w0 : Nat) (r_doors : Nat) (r_openingWalls : Nat) (r_froms : Nat) (r_tos : Nat) (r_lowers : Nat) (r_uppers : Nat) (r_standWalls : Nat) (r_standXs : Nat) (r_standYs : Nat) (w_begins : Nat) (w_lengths : Nat) (w_lefts : Nat) (w_rights : Nat) (w_leans : Nat) (w_leaning : Nat) (aK : Nat → Int) (aV : Nat → Int) (Tk : Nat → Int) (Tv : Nat → Int) (Wl : Nat → Int) (Rsw : Nat → Int) (Rsx : Nat → Int) (Rsy : Nat → Int) (to0 : Int) (ts : Int) (tk : Int) (ro : Int) (rs : Int) (wn : Int) (wr : Int) (b_to0 : 0 ≤ to0 ∧ to0 ≤ 401) (b_ts : 0 ≤ ts ∧ ts ≤ 400) (b_tk : 0 ≤ tk ∧ tk ≤ 401) (b_ro : 0 ≤ ro ∧ ro ≤ 8) (b_rs : 0 ≤ rs ∧ rs ≤ 4) (b_wn : 0 ≤ wn ∧ wn ≤ 8) (b_wr : 0 ≤ wr ∧ wr ≤ 4800) (hK : ∀ j : Nat, (j : Int) < tk → Tk j = aK j) (hV : ∀ j : Nat, (j : Int) < tk → Tv j = aV j) (hO : ∀ j : Nat, (j : Int) < tk → aK j ≠ 10 → (j : Int) + 1 < tk) (hn : to0 < tk) (hk : aK to0.toNat ≠ 10) (h4 : rs < 4) (h_Tk : ∀ j, j < 401 → 0 ≤ Tk j ∧ Tk j ≤ 10) (h_Tv : ∀ j, j < 401 → 0 ≤ Tv j ∧ Tv j ≤ 100000) (h_Wl : ∀ j, j < 8 → 0 ≤ Wl j ∧ Wl j ≤ 600) (h_Rsw : ∀ j, j < 4 → 0 ≤ Rsw j ∧ Rsw j ≤ 7) (h_Rsx : ∀ j, j < 4 → 0 ≤ Rsx j ∧ Rsx j ≤ 600) (h_Rsy : ∀ j, j < 4 → 0 ≤ Rsy j ∧ Rsy j ≤ 400) : Con l Z yX4_readStand cX4_readStand 4 (some .boolean) 2 44 0 0 [.ref e0] [cO_rri e0 4 t0 r0 to0, cO_riirrr t0 9 t_bytes ts tk t_kinds t_places t_values, cA Z t_kinds 0 401 Tk, cA Z t_values 0 401 Tv, cO_rirrrrrrirrr r0 6 w0 ro r_doors r_openingWalls r_froms r_tos r_lowers r_uppers rs r_standWalls r_standXs r_standYs, cO_rrrrrrii w0 10 w_begins w_lengths w_lefts w_rights w_leans w_leaning wn wr, cA Z w_lengths 0 8 Wl, cA Z r_standWalls 0 4 Rsw, cA Z r_standXs 0 4 Rsx, cA Z r_standYs 0 4 Rsy] (fun r w' => ∃ (Rsw2 : Nat → Int) (Rsx2 : Nat → Int) (Rsy2 : Nat → Int) (to2 : Int) (rs2 : Int) (y : Int), (r = some (.int (iI y))) ∧ (w' = [cO_rri e0 4 t0 r0 to2, cO_riirrr t0 9 t_bytes ts tk t_kinds t_places t_values, cA Z t_kinds 0 401 Tk, cA Z t_values 0 401 Tv, cO_rirrrrrrirrr r0 6 w0 ro r_doors r_openingWalls r_froms r_tos r_lowers r_uppers rs2 r_standWalls r_standXs r_standYs, cO_rrrrrrii w0 10 w_begins w_lengths w_lefts w_rights w_leans w_leaning wn wr, cA Z w_lengths 0 8 Wl, cA Z r_standWalls 0 4 Rsw2, cA Z r_standXs 0 4 Rsx2, cA Z r_standYs 0 4 Rsy2]) ∧ (0 ≤ to2 ∧ to2 ≤ 401) ∧ (0 ≤ rs2 ∧ rs2 ≤ 4) ∧ (0 ≤ y ∧ y ≤ 1) ∧ (∀ j, j < 4 → 0 ≤ Rsw2 j ∧ Rsw2 j ≤ 7) ∧ (∀ j, j < 4 → 0 ≤ Rsx2 j ∧ Rsx2 j ≤ 600) ∧ (∀ j, j < 4 → 0 ≤ Rsy2 j ∧ Rsy2 j ≤ 400) ∧ (to2 < tk) ∧ (to0 < to2) ∧ (y = 1 → to0 + 2 ≤ to2) ∧ ((y = 1 ∧ stC aK aV wn Wl to0 = -1 - to2) ∨ (y = 0 ∧ stC aK aV wn Wl to0 = to2)) ∧ (y = 1 → rs2 = rs + 1) ∧ (y = 1 → Rsw2 = updI Rsw rs.toNat (aV (to0 + 1).toNat)) ∧ (y = 1 → Rsx2 = updI Rsx rs.toNat (aV (to0 + 1 + 1).toNat)) ∧ (y = 1 → Rsy2 = updI Rsy rs.toNat (aV (to0 + 1 + 1 + 1).toNat))) := by
  refine enter (by decide) (Nat.le_of_ble_eq_true rfl) ?_
  intro p e s m args below meth c A X hnm hA
  have X : Cx p s m args meth c cX4_readStand 4 (some .boolean) RX4 Z A := X
  refine g_as (pc' := 0) (lv' := [(0, .ref e0)]) (st' := []) (ws' := [cO_rri e0 4 t0 r0 to0, cO_riirrr t0 9 t_bytes ts tk t_kinds t_places t_values, cA Z t_kinds 0 401 Tk, cA Z t_values 0 401 Tv, cO_rirrrrrrirrr r0 6 w0 ro r_doors r_openingWalls r_froms r_tos r_lowers r_uppers rs r_standWalls r_standXs r_standYs, cO_rrrrrrii w0 10 w_begins w_lengths w_lefts w_rights w_leans w_leaning wn wr, cA Z w_lengths 0 8 Wl, cA Z r_standWalls 0 4 Rsw, cA Z r_standXs 0 4 Rsx, cA Z r_standYs 0 4 Rsy]) rfl rfl rfl rfl ?_
  have qo := hO to0.toNat (by omega) hk
  refine g_aload_n (pc := 0) X 0 rfl dX4_readStand_0 ?_
  refine g_dup (pc := 1) X rfl dX4_readStand_1 ?_
  refine g_get (pc := 2) X inlX4 0 rfl rfl 2 (by decide) mw_12_0 rfl dX4_readStand_2 ?_
  refine g_iconst (pc := 5) X (iI 1) (by rfl) dX4_readStand_5 ?_
  refine g_iaddI (pc := 6) X dX4_readStand_6 ?_
  refine g_put (pc := 7) X inlX4 tyX4_ok nmX4 0 rfl rfl 2 (by decide) mw_12_0 rfl rfl rfl (Nat.le_of_ble_eq_true rfl) (ws' := [cO_rri e0 4 t0 r0 (to0 + 1), cO_riirrr t0 9 t_bytes ts tk t_kinds t_places t_values, cA Z t_kinds 0 401 Tk, cA Z t_values 0 401 Tv, cO_rirrrrrrirrr r0 6 w0 ro r_doors r_openingWalls r_froms r_tos r_lowers r_uppers rs r_standWalls r_standXs r_standYs, cO_rrrrrrii w0 10 w_begins w_lengths w_lefts w_rights w_leans w_leaning wn wr, cA Z w_lengths 0 8 Wl, cA Z r_standWalls 0 4 Rsw, cA Z r_standXs 0 4 Rsx, cA Z r_standYs 0 4 Rsy]) rfl dX4_readStand_7 ?_
  refine g_aload_n (pc := 10) X 0 rfl dX4_readStand_10 ?_
  refine g_iconst (pc := 11) X (iI 0) (by rfl) dX4_readStand_11 ?_
  refine g_aload_n (pc := 12) X 0 rfl dX4_readStand_12 ?_
  refine g_get (pc := 13) X inlX4 0 rfl rfl 1 (by decide) mw_12_1 rfl dX4_readStand_13 ?_
  refine g_get (pc := 16) X inlX6 4 rfl rfl 0 (by decide) mw_12_2 rfl dX4_readStand_16 ?_
  refine g_get (pc := 19) X inlX10 5 rfl rfl 6 (by decide) mw_12_3 rfl dX4_readStand_19 ?_
  refine g_iconst (pc := 22) X (iI 1) (by rfl) dX4_readStand_22 ?_
  refine g_isubI (pc := 23) X dX4_readStand_23 ?_
  refine g_callV (pc := 24) X (kx_X4_readNumber l Z e0 t0 r0 t_bytes t_kinds t_places t_values aK aV Tk Tv 0 (wn - 1) (to0 + 1) ts tk (by decide) (by omega) (by omega) b_ts b_tk (hK) (hV) (hO) (by omega) (h_Tk) (h_Tv)) iM_X4_readNumber mw_16_22 mw_16_23 mw_17_0 0 rfl rfl [0, 1, 2, 3] [4, 5, 6, 7, 8, 9] rfl (wr := [cO_rirrrrrrirrr r0 6 w0 ro r_doors r_openingWalls r_froms r_tos r_lowers r_uppers rs r_standWalls r_standXs r_standYs, cO_rrrrrrii w0 10 w_begins w_lengths w_lefts w_rights w_leans w_leaning wn wr, cA Z w_lengths 0 8 Wl, cA Z r_standWalls 0 4 Rsw, cA Z r_standXs 0 4 Rsx, cA Z r_standYs 0 4 Rsy]) rfl (by decide) rfl rfl (Nat.le_of_ble_eq_true rfl) (by decide) dX4_readStand_24 (fun r w' hpo => ?_)
  rcases hpo with hp0 | hp1
  · obtain ⟨rfl, rfl, hf24_f1⟩ := hp0
    refine g_as (pc' := 27) (lv' := [(0, .ref e0)]) (st' := [.int (iI (-1))]) (ws' := [cO_rirrrrrrirrr r0 6 w0 ro r_doors r_openingWalls r_froms r_tos r_lowers r_uppers rs r_standWalls r_standXs r_standYs, cO_rrrrrrii w0 10 w_begins w_lengths w_lefts w_rights w_leans w_leaning wn wr, cA Z w_lengths 0 8 Wl, cA Z r_standWalls 0 4 Rsw, cA Z r_standXs 0 4 Rsx, cA Z r_standYs 0 4 Rsy, cO_rri e0 4 t0 r0 (to0 + 1), cO_riirrr t0 9 t_bytes ts tk t_kinds t_places t_values, cA Z t_kinds 0 401 Tk, cA Z t_values 0 401 Tv]) rfl rfl rfl rfl ?_
    refine g_istore_n (pc := 27) X (i := 1) rfl (by decide) (lv' := [(1, .int (iI (-1))), (0, .ref e0)]) rfl dX4_readStand_27 ?_
    refine g_iload_n (pc := 28) X 0 rfl dX4_readStand_28 ?_
    refine g_iconst (pc := 29) X (iI (-1)) (by rfl) dX4_readStand_29 ?_
    refine g_icmp_neI (pc := 30) X 37 (by decide) ⟨by decide, by decide⟩ ⟨by decide, by decide⟩ dX4_readStand_30 (fun h => absurd h (by decide)) (fun _ => ?_)
    refine g_iconst (pc := 33) X (iI (-1)) (by rfl) dX4_readStand_33 ?_
    refine g_goto (pc := 34) X 53 (by decide) dX4_readStand_34 ?_
    refine g_istore_n (pc := 53) X (i := 2) rfl (by decide) (lv' := [(2, .int (iI (-1))), (1, .int (iI (-1))), (0, .ref e0)]) rfl dX4_readStand_53 ?_
    refine g_iload_n (pc := 54) X 0 rfl dX4_readStand_54 ?_
    refine g_iconst (pc := 55) X (iI (-1)) (by rfl) dX4_readStand_55 ?_
    refine g_icmp_neI (pc := 56) X 63 (by decide) ⟨by decide, by decide⟩ ⟨by decide, by decide⟩ dX4_readStand_56 (fun h => absurd h (by decide)) (fun _ => ?_)
    refine g_iconst (pc := 59) X (iI (-1)) (by rfl) dX4_readStand_59 ?_
    refine g_goto (pc := 60) X 71 (by decide) dX4_readStand_60 ?_
    refine g_istore_n (pc := 71) X (i := 3) rfl (by decide) (lv' := [(3, .int (iI (-1))), (2, .int (iI (-1))), (1, .int (iI (-1))), (0, .ref e0)]) rfl dX4_readStand_71 ?_
    refine g_iload_n (pc := 72) X 0 rfl dX4_readStand_72 ?_
    refine g_iconst (pc := 73) X (iI (-1)) (by rfl) dX4_readStand_73 ?_
    refine g_icmp_eqI (pc := 74) X 86 (by decide) ⟨by decide, by decide⟩ ⟨by decide, by decide⟩ dX4_readStand_74 (fun _ => ?_) (fun h => absurd h (by decide))
    refine g_iconst (pc := 86) X (iI 0) (by rfl) dX4_readStand_86 ?_
    refine g_ws (ws' := [cO_rri e0 4 t0 r0 (to0 + 1), cO_riirrr t0 9 t_bytes ts tk t_kinds t_places t_values, cA Z t_kinds 0 401 Tk, cA Z t_values 0 401 Tv, cO_rirrrrrrirrr r0 6 w0 ro r_doors r_openingWalls r_froms r_tos r_lowers r_uppers rs r_standWalls r_standXs r_standYs, cO_rrrrrrii w0 10 w_begins w_lengths w_lefts w_rights w_leans w_leaning wn wr, cA Z w_lengths 0 8 Wl, cA Z r_standWalls 0 4 Rsw, cA Z r_standXs 0 4 Rsx, cA Z r_standYs 0 4 Rsy]) [6, 7, 8, 9, 0, 1, 2, 3, 4, 5] (by decide) rfl ?_
    exact g_zret (pc := 87) X hA (rfl) (⟨Rsw, Rsx, Rsy, (to0 + 1), rs, 0, rfl, rfl, (by omega), (b_rs), (by omega), (h_Rsw), (h_Rsx), (h_Rsy), (by omega), (by omega), (by omega), (by have q := stC_1 (K := aK) (V := aV) (t := to0) (nw := wn) (L := Wl) (by omega); omega), (fun h => absurd h (by decide)), (fun h => absurd h (by decide)), (fun h => absurd h (by decide)), (fun h => absurd h (by decide))⟩) (by decide) (by decide) dX4_readStand_87
  · refine anD_5 hp1 fun e_r e_w hf24_f1 hf24_f3 hf24_fb => ?_; clear hp1; subst e_r; subst e_w
    refine g_as (pc' := 27) (lv' := [(0, .ref e0)]) (st' := [.int (iI (aV (to0 + 1).toNat))]) (ws' := [cO_rirrrrrrirrr r0 6 w0 ro r_doors r_openingWalls r_froms r_tos r_lowers r_uppers rs r_standWalls r_standXs r_standYs, cO_rrrrrrii w0 10 w_begins w_lengths w_lefts w_rights w_leans w_leaning wn wr, cA Z w_lengths 0 8 Wl, cA Z r_standWalls 0 4 Rsw, cA Z r_standXs 0 4 Rsx, cA Z r_standYs 0 4 Rsy, cO_rri e0 4 t0 r0 ((to0 + 1) + 1), cO_riirrr t0 9 t_bytes ts tk t_kinds t_places t_values, cA Z t_kinds 0 401 Tk, cA Z t_values 0 401 Tv]) rfl rfl rfl rfl ?_
    have tt3 : 0 ≤ aV (to0 + 1).toNat ∧ aV (to0 + 1).toNat ≤ 7 := by omega
    refine g_istore_n (pc := 27) X (i := 1) rfl (by decide) (lv' := [(1, .int (iI (aV (to0 + 1).toNat))), (0, .ref e0)]) rfl dX4_readStand_27 ?_
    refine g_iload_n (pc := 28) X 0 rfl dX4_readStand_28 ?_
    refine g_iconst (pc := 29) X (iI (-1)) (by rfl) dX4_readStand_29 ?_
    refine g_icmp_neI (pc := 30) X 37 (by decide) ⟨by omega, by omega⟩ ⟨by decide, by decide⟩ dX4_readStand_30 (fun c30 => ?_) (fun h => absurd h (by omega))
    refine g_aload_n (pc := 37) X 1 rfl dX4_readStand_37 ?_
    refine g_iconst (pc := 38) X (iI 0) (by rfl) dX4_readStand_38 ?_
    refine g_aload_n (pc := 39) X 1 rfl dX4_readStand_39 ?_
    refine g_get (pc := 40) X inlX4 6 rfl rfl 1 (by decide) mw_12_1 rfl dX4_readStand_40 ?_
    refine g_get (pc := 43) X inlX6 0 rfl rfl 0 (by decide) mw_12_2 rfl dX4_readStand_43 ?_
    refine g_iload_n (pc := 46) X 0 rfl dX4_readStand_46 ?_
    refine g_callV (pc := 47) X (kx_X10_lengthOf l Z w0 w_begins w_lengths w_lefts w_rights w_leans w_leaning Wl (aV (to0 + 1).toNat) wn wr (by omega) b_wn b_wr (by omega) (h_Wl)) iM_X10_lengthOf mw_17_15 mw_17_16 mw_17_17 1 rfl rfl [1, 2] [0, 3, 4, 5, 6, 7, 8, 9] rfl (wr := [cO_rirrrrrrirrr r0 6 w0 ro r_doors r_openingWalls r_froms r_tos r_lowers r_uppers rs r_standWalls r_standXs r_standYs, cA Z r_standWalls 0 4 Rsw, cA Z r_standXs 0 4 Rsx, cA Z r_standYs 0 4 Rsy, cO_rri e0 4 t0 r0 ((to0 + 1) + 1), cO_riirrr t0 9 t_bytes ts tk t_kinds t_places t_values, cA Z t_kinds 0 401 Tk, cA Z t_values 0 401 Tv]) rfl (by decide) rfl rfl (Nat.le_of_ble_eq_true rfl) (by decide) dX4_readStand_47 (fun r w' hpo => ?_)
    obtain ⟨rfl, rfl, hf47_fb⟩ := hpo
    refine g_as (pc' := 50) (lv' := [(1, .int (iI (aV (to0 + 1).toNat))), (0, .ref e0)]) (st' := [.int (iI (Wl (aV (to0 + 1).toNat).toNat)), .int (iI 0), .ref e0]) (ws' := [cO_rirrrrrrirrr r0 6 w0 ro r_doors r_openingWalls r_froms r_tos r_lowers r_uppers rs r_standWalls r_standXs r_standYs, cA Z r_standWalls 0 4 Rsw, cA Z r_standXs 0 4 Rsx, cA Z r_standYs 0 4 Rsy, cO_rri e0 4 t0 r0 ((to0 + 1) + 1), cO_riirrr t0 9 t_bytes ts tk t_kinds t_places t_values, cA Z t_kinds 0 401 Tk, cA Z t_values 0 401 Tv, cO_rrrrrrii w0 10 w_begins w_lengths w_lefts w_rights w_leans w_leaning wn wr, cA Z w_lengths 0 8 Wl]) rfl rfl rfl rfl ?_
    refine g_callV (pc := 50) X (kx_X4_readNumber l Z e0 t0 r0 t_bytes t_kinds t_places t_values aK aV Tk Tv 0 (Wl (aV (to0 + 1).toNat).toNat) ((to0 + 1) + 1) ts tk (by decide) (by omega) (by omega) b_ts b_tk (hK) (hV) (hO) (by omega) (h_Tk) (h_Tv)) iM_X4_readNumber mw_16_22 mw_16_23 mw_17_0 4 rfl rfl [4, 5, 6, 7] [0, 1, 2, 3, 8, 9] rfl (wr := [cO_rirrrrrrirrr r0 6 w0 ro r_doors r_openingWalls r_froms r_tos r_lowers r_uppers rs r_standWalls r_standXs r_standYs, cA Z r_standWalls 0 4 Rsw, cA Z r_standXs 0 4 Rsx, cA Z r_standYs 0 4 Rsy, cO_rrrrrrii w0 10 w_begins w_lengths w_lefts w_rights w_leans w_leaning wn wr, cA Z w_lengths 0 8 Wl]) rfl (by decide) rfl rfl (Nat.le_of_ble_eq_true rfl) (by decide) dX4_readStand_50 (fun r w' hpo => ?_)
    rcases hpo with hp0 | hp1
    · obtain ⟨rfl, rfl, hf50_f1⟩ := hp0
      refine g_as (pc' := 53) (lv' := [(1, .int (iI (aV (to0 + 1).toNat))), (0, .ref e0)]) (st' := [.int (iI (-1))]) (ws' := [cO_rirrrrrrirrr r0 6 w0 ro r_doors r_openingWalls r_froms r_tos r_lowers r_uppers rs r_standWalls r_standXs r_standYs, cA Z r_standWalls 0 4 Rsw, cA Z r_standXs 0 4 Rsx, cA Z r_standYs 0 4 Rsy, cO_rrrrrrii w0 10 w_begins w_lengths w_lefts w_rights w_leans w_leaning wn wr, cA Z w_lengths 0 8 Wl, cO_rri e0 4 t0 r0 ((to0 + 1) + 1), cO_riirrr t0 9 t_bytes ts tk t_kinds t_places t_values, cA Z t_kinds 0 401 Tk, cA Z t_values 0 401 Tv]) rfl rfl rfl rfl ?_
      refine g_istore_n (pc := 53) X (i := 2) rfl (by decide) (lv' := [(2, .int (iI (-1))), (1, .int (iI (aV (to0 + 1).toNat))), (0, .ref e0)]) rfl dX4_readStand_53 ?_
      refine g_iload_n (pc := 54) X 0 rfl dX4_readStand_54 ?_
      refine g_iconst (pc := 55) X (iI (-1)) (by rfl) dX4_readStand_55 ?_
      refine g_icmp_neI (pc := 56) X 63 (by decide) ⟨by decide, by decide⟩ ⟨by decide, by decide⟩ dX4_readStand_56 (fun h => absurd h (by decide)) (fun _ => ?_)
      refine g_iconst (pc := 59) X (iI (-1)) (by rfl) dX4_readStand_59 ?_
      refine g_goto (pc := 60) X 71 (by decide) dX4_readStand_60 ?_
      refine g_istore_n (pc := 71) X (i := 3) rfl (by decide) (lv' := [(3, .int (iI (-1))), (2, .int (iI (-1))), (1, .int (iI (aV (to0 + 1).toNat))), (0, .ref e0)]) rfl dX4_readStand_71 ?_
      refine g_iload_n (pc := 72) X 0 rfl dX4_readStand_72 ?_
      refine g_iconst (pc := 73) X (iI (-1)) (by rfl) dX4_readStand_73 ?_
      refine g_icmp_eqI (pc := 74) X 86 (by decide) ⟨by decide, by decide⟩ ⟨by decide, by decide⟩ dX4_readStand_74 (fun _ => ?_) (fun h => absurd h (by decide))
      refine g_iconst (pc := 86) X (iI 0) (by rfl) dX4_readStand_86 ?_
      refine g_ws (ws' := [cO_rri e0 4 t0 r0 ((to0 + 1) + 1), cO_riirrr t0 9 t_bytes ts tk t_kinds t_places t_values, cA Z t_kinds 0 401 Tk, cA Z t_values 0 401 Tv, cO_rirrrrrrirrr r0 6 w0 ro r_doors r_openingWalls r_froms r_tos r_lowers r_uppers rs r_standWalls r_standXs r_standYs, cO_rrrrrrii w0 10 w_begins w_lengths w_lefts w_rights w_leans w_leaning wn wr, cA Z w_lengths 0 8 Wl, cA Z r_standWalls 0 4 Rsw, cA Z r_standXs 0 4 Rsx, cA Z r_standYs 0 4 Rsy]) [6, 7, 8, 9, 0, 4, 5, 1, 2, 3] (by decide) rfl ?_
      exact g_zret (pc := 87) X hA (rfl) (⟨Rsw, Rsx, Rsy, ((to0 + 1) + 1), rs, 0, rfl, rfl, (by omega), (b_rs), (by omega), (h_Rsw), (h_Rsx), (h_Rsy), (by omega), (by omega), (by omega), (by have q := stC_2 (K := aK) (V := aV) (t := to0) (nw := wn) (L := Wl) (by omega) (by omega); omega), (fun h => absurd h (by decide)), (fun h => absurd h (by decide)), (fun h => absurd h (by decide)), (fun h => absurd h (by decide))⟩) (by decide) (by decide) dX4_readStand_87
    · refine anD_5 hp1 fun e_r e_w hf50_f1 hf50_f3 hf50_fb => ?_; clear hp1; subst e_r; subst e_w
      refine g_as (pc' := 53) (lv' := [(1, .int (iI (aV (to0 + 1).toNat))), (0, .ref e0)]) (st' := [.int (iI (aV ((to0 + 1) + 1).toNat))]) (ws' := [cO_rirrrrrrirrr r0 6 w0 ro r_doors r_openingWalls r_froms r_tos r_lowers r_uppers rs r_standWalls r_standXs r_standYs, cA Z r_standWalls 0 4 Rsw, cA Z r_standXs 0 4 Rsx, cA Z r_standYs 0 4 Rsy, cO_rrrrrrii w0 10 w_begins w_lengths w_lefts w_rights w_leans w_leaning wn wr, cA Z w_lengths 0 8 Wl, cO_rri e0 4 t0 r0 (((to0 + 1) + 1) + 1), cO_riirrr t0 9 t_bytes ts tk t_kinds t_places t_values, cA Z t_kinds 0 401 Tk, cA Z t_values 0 401 Tv]) rfl rfl rfl rfl ?_
      have tt7 : 0 ≤ aV ((to0 + 1) + 1).toNat ∧ aV ((to0 + 1) + 1).toNat ≤ 600 := by omega
      refine g_istore_n (pc := 53) X (i := 2) rfl (by decide) (lv' := [(2, .int (iI (aV ((to0 + 1) + 1).toNat))), (1, .int (iI (aV (to0 + 1).toNat))), (0, .ref e0)]) rfl dX4_readStand_53 ?_
      refine g_iload_n (pc := 54) X 0 rfl dX4_readStand_54 ?_
      refine g_iconst (pc := 55) X (iI (-1)) (by rfl) dX4_readStand_55 ?_
      refine g_icmp_neI (pc := 56) X 63 (by decide) ⟨by omega, by omega⟩ ⟨by decide, by decide⟩ dX4_readStand_56 (fun c56 => ?_) (fun h => absurd h (by omega))
      refine g_aload_n (pc := 63) X 2 rfl dX4_readStand_63 ?_
      refine g_iconst (pc := 64) X (iI 0) (by rfl) dX4_readStand_64 ?_
      refine g_sipush (pc := 65) X (iI 400) (by decide) dX4_readStand_65 ?_
      refine g_callV (pc := 68) X (kx_X4_readNumber l Z e0 t0 r0 t_bytes t_kinds t_places t_values aK aV Tk Tv 0 400 (((to0 + 1) + 1) + 1) ts tk (by decide) (by decide) (by omega) b_ts b_tk (hK) (hV) (hO) (by omega) (h_Tk) (h_Tv)) iM_X4_readNumber mw_16_22 mw_16_23 mw_17_0 6 rfl rfl [6, 7, 8, 9] [0, 1, 2, 3, 4, 5] rfl (wr := [cO_rirrrrrrirrr r0 6 w0 ro r_doors r_openingWalls r_froms r_tos r_lowers r_uppers rs r_standWalls r_standXs r_standYs, cA Z r_standWalls 0 4 Rsw, cA Z r_standXs 0 4 Rsx, cA Z r_standYs 0 4 Rsy, cO_rrrrrrii w0 10 w_begins w_lengths w_lefts w_rights w_leans w_leaning wn wr, cA Z w_lengths 0 8 Wl]) rfl (by decide) rfl rfl (Nat.le_of_ble_eq_true rfl) (by decide) dX4_readStand_68 (fun r w' hpo => ?_)
      rcases hpo with hp0 | hp1
      · obtain ⟨rfl, rfl, hf68_f1⟩ := hp0
        refine g_as (pc' := 71) (lv' := [(2, .int (iI (aV ((to0 + 1) + 1).toNat))), (1, .int (iI (aV (to0 + 1).toNat))), (0, .ref e0)]) (st' := [.int (iI (-1))]) (ws' := [cO_rirrrrrrirrr r0 6 w0 ro r_doors r_openingWalls r_froms r_tos r_lowers r_uppers rs r_standWalls r_standXs r_standYs, cA Z r_standWalls 0 4 Rsw, cA Z r_standXs 0 4 Rsx, cA Z r_standYs 0 4 Rsy, cO_rrrrrrii w0 10 w_begins w_lengths w_lefts w_rights w_leans w_leaning wn wr, cA Z w_lengths 0 8 Wl, cO_rri e0 4 t0 r0 (((to0 + 1) + 1) + 1), cO_riirrr t0 9 t_bytes ts tk t_kinds t_places t_values, cA Z t_kinds 0 401 Tk, cA Z t_values 0 401 Tv]) rfl rfl rfl rfl ?_
        refine g_istore_n (pc := 71) X (i := 3) rfl (by decide) (lv' := [(3, .int (iI (-1))), (2, .int (iI (aV ((to0 + 1) + 1).toNat))), (1, .int (iI (aV (to0 + 1).toNat))), (0, .ref e0)]) rfl dX4_readStand_71 ?_
        refine g_iload_n (pc := 72) X 0 rfl dX4_readStand_72 ?_
        refine g_iconst (pc := 73) X (iI (-1)) (by rfl) dX4_readStand_73 ?_
        refine g_icmp_eqI (pc := 74) X 86 (by decide) ⟨by decide, by decide⟩ ⟨by decide, by decide⟩ dX4_readStand_74 (fun _ => ?_) (fun h => absurd h (by decide))
        refine g_iconst (pc := 86) X (iI 0) (by rfl) dX4_readStand_86 ?_
        refine g_ws (ws' := [cO_rri e0 4 t0 r0 (((to0 + 1) + 1) + 1), cO_riirrr t0 9 t_bytes ts tk t_kinds t_places t_values, cA Z t_kinds 0 401 Tk, cA Z t_values 0 401 Tv, cO_rirrrrrrirrr r0 6 w0 ro r_doors r_openingWalls r_froms r_tos r_lowers r_uppers rs r_standWalls r_standXs r_standYs, cO_rrrrrrii w0 10 w_begins w_lengths w_lefts w_rights w_leans w_leaning wn wr, cA Z w_lengths 0 8 Wl, cA Z r_standWalls 0 4 Rsw, cA Z r_standXs 0 4 Rsx, cA Z r_standYs 0 4 Rsy]) [6, 7, 8, 9, 0, 4, 5, 1, 2, 3] (by decide) rfl ?_
        exact g_zret (pc := 87) X hA (rfl) (⟨Rsw, Rsx, Rsy, (((to0 + 1) + 1) + 1), rs, 0, rfl, rfl, (by omega), (b_rs), (by omega), (h_Rsw), (h_Rsx), (h_Rsy), (by omega), (by omega), (by omega), (by have q := stC_3 (K := aK) (V := aV) (t := to0) (nw := wn) (L := Wl) (by omega) (by omega) (by omega); omega), (fun h => absurd h (by decide)), (fun h => absurd h (by decide)), (fun h => absurd h (by decide)), (fun h => absurd h (by decide))⟩) (by decide) (by decide) dX4_readStand_87
      · refine anD_5 hp1 fun e_r e_w hf68_f1 hf68_f3 hf68_fb => ?_; clear hp1; subst e_r; subst e_w
        refine g_as (pc' := 71) (lv' := [(2, .int (iI (aV ((to0 + 1) + 1).toNat))), (1, .int (iI (aV (to0 + 1).toNat))), (0, .ref e0)]) (st' := [.int (iI (aV (((to0 + 1) + 1) + 1).toNat))]) (ws' := [cO_rirrrrrrirrr r0 6 w0 ro r_doors r_openingWalls r_froms r_tos r_lowers r_uppers rs r_standWalls r_standXs r_standYs, cA Z r_standWalls 0 4 Rsw, cA Z r_standXs 0 4 Rsx, cA Z r_standYs 0 4 Rsy, cO_rrrrrrii w0 10 w_begins w_lengths w_lefts w_rights w_leans w_leaning wn wr, cA Z w_lengths 0 8 Wl, cO_rri e0 4 t0 r0 ((((to0 + 1) + 1) + 1) + 1), cO_riirrr t0 9 t_bytes ts tk t_kinds t_places t_values, cA Z t_kinds 0 401 Tk, cA Z t_values 0 401 Tv]) rfl rfl rfl rfl ?_
        have tt10 : 0 ≤ aV (((to0 + 1) + 1) + 1).toNat ∧ aV (((to0 + 1) + 1) + 1).toNat ≤ 400 := by omega
        refine g_istore_n (pc := 71) X (i := 3) rfl (by decide) (lv' := [(3, .int (iI (aV (((to0 + 1) + 1) + 1).toNat))), (2, .int (iI (aV ((to0 + 1) + 1).toNat))), (1, .int (iI (aV (to0 + 1).toNat))), (0, .ref e0)]) rfl dX4_readStand_71 ?_
        refine g_iload_n (pc := 72) X 0 rfl dX4_readStand_72 ?_
        refine g_iconst (pc := 73) X (iI (-1)) (by rfl) dX4_readStand_73 ?_
        refine g_icmp_eqI (pc := 74) X 86 (by decide) ⟨by omega, by omega⟩ ⟨by decide, by decide⟩ dX4_readStand_74 (fun h => absurd h (by omega)) (fun c74 => ?_)
        refine g_aload_n (pc := 77) X 3 rfl dX4_readStand_77 ?_
        refine g_bipush (pc := 78) X (iI 8) (by decide) dX4_readStand_78 ?_
        refine g_callV (pc := 80) X (kx_X4_readSign l Z e0 t0 r0 t_bytes t_kinds t_places t_values aK aV Tk 8 ((((to0 + 1) + 1) + 1) + 1) ts tk (by decide) (by omega) b_ts b_tk (hK) (hO) (by omega) (by omega) (h_Tk)) iM_X4_readSign mw_17_3 mw_17_4 mw_17_5 6 rfl rfl [6, 7, 8] [0, 1, 2, 3, 4, 5, 9] rfl (wr := [cO_rirrrrrrirrr r0 6 w0 ro r_doors r_openingWalls r_froms r_tos r_lowers r_uppers rs r_standWalls r_standXs r_standYs, cA Z r_standWalls 0 4 Rsw, cA Z r_standXs 0 4 Rsx, cA Z r_standYs 0 4 Rsy, cO_rrrrrrii w0 10 w_begins w_lengths w_lefts w_rights w_leans w_leaning wn wr, cA Z w_lengths 0 8 Wl, cA Z t_values 0 401 Tv]) rfl (by decide) rfl rfl (Nat.le_of_ble_eq_true rfl) (by decide) dX4_readStand_80 (fun r w' hpo => ?_)
        rcases hpo with hp0 | hp1
        · obtain ⟨rfl, rfl, hf80_f1⟩ := hp0
          refine g_as (pc' := 83) (lv' := [(3, .int (iI (aV (((to0 + 1) + 1) + 1).toNat))), (2, .int (iI (aV ((to0 + 1) + 1).toNat))), (1, .int (iI (aV (to0 + 1).toNat))), (0, .ref e0)]) (st' := [.int (iI 0)]) (ws' := [cO_rirrrrrrirrr r0 6 w0 ro r_doors r_openingWalls r_froms r_tos r_lowers r_uppers rs r_standWalls r_standXs r_standYs, cA Z r_standWalls 0 4 Rsw, cA Z r_standXs 0 4 Rsx, cA Z r_standYs 0 4 Rsy, cO_rrrrrrii w0 10 w_begins w_lengths w_lefts w_rights w_leans w_leaning wn wr, cA Z w_lengths 0 8 Wl, cA Z t_values 0 401 Tv, cO_rri e0 4 t0 r0 ((((to0 + 1) + 1) + 1) + 1), cO_riirrr t0 9 t_bytes ts tk t_kinds t_places t_values, cA Z t_kinds 0 401 Tk]) rfl rfl rfl rfl ?_
          refine g_if_neI (pc := 83) X 88 (by decide) ⟨by decide, by decide⟩ dX4_readStand_83 (fun h => absurd h (by decide)) (fun _ => ?_)
          refine g_iconst (pc := 86) X (iI 0) (by rfl) dX4_readStand_86 ?_
          refine g_ws (ws' := [cO_rri e0 4 t0 r0 ((((to0 + 1) + 1) + 1) + 1), cO_riirrr t0 9 t_bytes ts tk t_kinds t_places t_values, cA Z t_kinds 0 401 Tk, cA Z t_values 0 401 Tv, cO_rirrrrrrirrr r0 6 w0 ro r_doors r_openingWalls r_froms r_tos r_lowers r_uppers rs r_standWalls r_standXs r_standYs, cO_rrrrrrii w0 10 w_begins w_lengths w_lefts w_rights w_leans w_leaning wn wr, cA Z w_lengths 0 8 Wl, cA Z r_standWalls 0 4 Rsw, cA Z r_standXs 0 4 Rsx, cA Z r_standYs 0 4 Rsy]) [7, 8, 9, 6, 0, 4, 5, 1, 2, 3] (by decide) rfl ?_
          exact g_zret (pc := 87) X hA (rfl) (⟨Rsw, Rsx, Rsy, ((((to0 + 1) + 1) + 1) + 1), rs, 0, rfl, rfl, (by omega), (b_rs), (by omega), (h_Rsw), (h_Rsx), (h_Rsy), (by omega), (by omega), (by omega), (by have q := stC_4 (K := aK) (V := aV) (t := to0) (nw := wn) (L := Wl) (by omega) (by omega) (by omega) (by omega); omega), (fun h => absurd h (by decide)), (fun h => absurd h (by decide)), (fun h => absurd h (by decide)), (fun h => absurd h (by decide))⟩) (by decide) (by decide) dX4_readStand_87
        · refine anD_4 hp1 fun e_r e_w hf80_f1 hf80_f3 => ?_; clear hp1; subst e_r; subst e_w
          refine g_as (pc' := 83) (lv' := [(3, .int (iI (aV (((to0 + 1) + 1) + 1).toNat))), (2, .int (iI (aV ((to0 + 1) + 1).toNat))), (1, .int (iI (aV (to0 + 1).toNat))), (0, .ref e0)]) (st' := [.int (iI 1)]) (ws' := [cO_rirrrrrrirrr r0 6 w0 ro r_doors r_openingWalls r_froms r_tos r_lowers r_uppers rs r_standWalls r_standXs r_standYs, cA Z r_standWalls 0 4 Rsw, cA Z r_standXs 0 4 Rsx, cA Z r_standYs 0 4 Rsy, cO_rrrrrrii w0 10 w_begins w_lengths w_lefts w_rights w_leans w_leaning wn wr, cA Z w_lengths 0 8 Wl, cA Z t_values 0 401 Tv, cO_rri e0 4 t0 r0 (((((to0 + 1) + 1) + 1) + 1) + 1), cO_riirrr t0 9 t_bytes ts tk t_kinds t_places t_values, cA Z t_kinds 0 401 Tk]) rfl rfl rfl rfl ?_
          refine g_if_neI (pc := 83) X 88 (by decide) ⟨by decide, by decide⟩ dX4_readStand_83 (fun _ => ?_) (fun h => absurd h (by decide))
          refine g_aload_n (pc := 88) X 3 rfl dX4_readStand_88 ?_
          refine g_get (pc := 89) X inlX4 7 rfl rfl 1 (by decide) mw_12_1 rfl dX4_readStand_89 ?_
          refine g_iload_n (pc := 92) X 2 rfl dX4_readStand_92 ?_
          refine g_iload_n (pc := 93) X 1 rfl dX4_readStand_93 ?_
          refine g_iload_n (pc := 94) X 0 rfl dX4_readStand_94 ?_
          refine g_callV (pc := 95) X (kx_X6_addStand l Z r0 w0 r_doors r_openingWalls r_froms r_tos r_lowers r_uppers r_standWalls r_standXs r_standYs Rsw Rsx Rsy (aV (to0 + 1).toNat) (aV ((to0 + 1) + 1).toNat) (aV (((to0 + 1) + 1) + 1).toNat) ro rs (by omega) (by omega) (by omega) b_ro b_rs (by omega) (h_Rsw) (h_Rsx) (h_Rsy)) iM_X6_addStand mw_19_4 mw_19_5 mw_19_6 0 rfl rfl [0, 1, 2, 3] [4, 5, 6, 7, 8, 9] rfl (wr := [cO_rrrrrrii w0 10 w_begins w_lengths w_lefts w_rights w_leans w_leaning wn wr, cA Z w_lengths 0 8 Wl, cA Z t_values 0 401 Tv, cO_rri e0 4 t0 r0 (((((to0 + 1) + 1) + 1) + 1) + 1), cO_riirrr t0 9 t_bytes ts tk t_kinds t_places t_values, cA Z t_kinds 0 401 Tk]) rfl (by decide) rfl rfl (Nat.le_of_ble_eq_true rfl) (by decide) dX4_readStand_95 (fun r w' hpo => ?_)
          refine exN_4 hpo fun F13 F14 F15 y16 hz => anD_10 hz fun e_r e_w hf95_b_rs2 hf95_h_Rsw2 hf95_h_Rsx2 hf95_h_Rsy2 hf95_f1 hf95_e0 hf95_e1 hf95_e2 => ?_; clear hz hpo; subst e_r; subst e_w
          refine g_as (pc' := 98) (lv' := [(3, .int (iI (aV (((to0 + 1) + 1) + 1).toNat))), (2, .int (iI (aV ((to0 + 1) + 1).toNat))), (1, .int (iI (aV (to0 + 1).toNat))), (0, .ref e0)]) (st' := []) (ws' := [cO_rrrrrrii w0 10 w_begins w_lengths w_lefts w_rights w_leans w_leaning wn wr, cA Z w_lengths 0 8 Wl, cA Z t_values 0 401 Tv, cO_rri e0 4 t0 r0 (((((to0 + 1) + 1) + 1) + 1) + 1), cO_riirrr t0 9 t_bytes ts tk t_kinds t_places t_values, cA Z t_kinds 0 401 Tk, cO_rirrrrrrirrr r0 6 w0 ro r_doors r_openingWalls r_froms r_tos r_lowers r_uppers y16 r_standWalls r_standXs r_standYs, cA Z r_standWalls 0 4 F13, cA Z r_standXs 0 4 F14, cA Z r_standYs 0 4 F15]) rfl rfl rfl rfl ?_
          refine g_iconst (pc := 98) X (iI 1) (by rfl) dX4_readStand_98 ?_
          refine g_ws (ws' := [cO_rri e0 4 t0 r0 (((((to0 + 1) + 1) + 1) + 1) + 1), cO_riirrr t0 9 t_bytes ts tk t_kinds t_places t_values, cA Z t_kinds 0 401 Tk, cA Z t_values 0 401 Tv, cO_rirrrrrrirrr r0 6 w0 ro r_doors r_openingWalls r_froms r_tos r_lowers r_uppers y16 r_standWalls r_standXs r_standYs, cO_rrrrrrii w0 10 w_begins w_lengths w_lefts w_rights w_leans w_leaning wn wr, cA Z w_lengths 0 8 Wl, cA Z r_standWalls 0 4 F13, cA Z r_standXs 0 4 F14, cA Z r_standYs 0 4 F15]) [3, 4, 5, 2, 6, 0, 1, 7, 8, 9] (by decide) rfl ?_
          exact g_zret (pc := 99) X hA (rfl) (⟨F13, F14, F15, (((((to0 + 1) + 1) + 1) + 1) + 1), y16, 1, rfl, rfl, (by omega), (hf95_b_rs2), (by omega), (hf95_h_Rsw2), (hf95_h_Rsx2), (hf95_h_Rsy2), (by omega), (by omega), (by omega), (by have q := stC_ok (K := aK) (V := aV) (t := to0) (nw := wn) (L := Wl) (by omega) (by omega) (by omega) (by omega); omega), (fun _ => hf95_f1), (fun _ => hf95_e0), (fun _ => hf95_e1), (fun _ => hf95_e2)⟩) (by decide) (by decide) dX4_readStand_99
