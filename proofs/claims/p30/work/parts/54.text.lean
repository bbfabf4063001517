set_option maxHeartbeats 4000000 in
set_option maxRecDepth 100000 in
theorem k_X9_hasSpaceFor (l : Launch) (Z : gZ) (t0 : Nat) (t_bytes : Nat) (t_kinds : Nat) (t_places : Nat) (t_values : Nat) (mo : Int) (ts : Int) (tk : Int) (b_mo : (-2147483648) ≤ mo ∧ mo ≤ 2147483647) (b_ts : 0 ≤ ts ∧ ts ≤ 400) (b_tk : 0 ≤ tk ∧ tk ≤ 401) : Con l Z yX9_hasSpaceFor cX9_hasSpaceFor 2 (some .boolean) 0 0 0 0 [.ref t0, .int (iI mo)] [cO_riirrr t0 9 t_bytes ts tk t_kinds t_places t_values] (fun r w' => (r = some (.int (iI (bI (0 ≤ mo ∧ mo ≤ 400 - ts))))) ∧ (w' = [cO_riirrr t0 9 t_bytes ts tk t_kinds t_places t_values])) := by
  refine enter (by decide) (Nat.le_of_ble_eq_true rfl) ?_
  intro p e s m args below meth c A X hnm hA
  have X : Cx p s m args meth c cX9_hasSpaceFor 2 (some .boolean) RX9 Z A := X
  refine g_as (pc' := 0) (lv' := [(0, .ref t0), (1, .int (iI mo))]) (st' := []) (ws' := [cO_riirrr t0 9 t_bytes ts tk t_kinds t_places t_values]) rfl rfl rfl rfl ?_
  refine g_iload_n (pc := 0) X 1 rfl dX9_hasSpaceFor_0 ?_
  refine g_if_ltI (pc := 1) X 20 (by decide) b_mo dX9_hasSpaceFor_1 (fun c1 => ?_) (fun c1 => ?_)
  · refine g_iconst (pc := 20) X (iI 0) (by rfl) dX9_hasSpaceFor_20 ?_
    exact g_zret (pc := 21) X hA (rfl) (⟨congrArg (fun z => some (Value.int (iI z))) ((bI_f (by omega)).symm), rfl⟩) (by decide) (by decide) dX9_hasSpaceFor_21
  · refine g_iload_n (pc := 4) X 1 rfl dX9_hasSpaceFor_4 ?_
    refine g_sipush (pc := 5) X (iI 400) (by decide) dX9_hasSpaceFor_5 ?_
    refine g_aload_n (pc := 8) X 0 rfl dX9_hasSpaceFor_8 ?_
    refine g_get (pc := 9) X inlX9 0 rfl rfl 1 (by decide) mw_10_8 rfl dX9_hasSpaceFor_9 ?_
    refine g_isubI (pc := 12) X dX9_hasSpaceFor_12 ?_
    refine g_icmp_gtI (pc := 13) X 20 (by decide) b_mo ⟨by omega, by omega⟩ dX9_hasSpaceFor_13 (fun c13 => ?_) (fun c13 => ?_)
    · refine g_iconst (pc := 20) X (iI 0) (by rfl) dX9_hasSpaceFor_20 ?_
      exact g_zret (pc := 21) X hA (rfl) (⟨congrArg (fun z => some (Value.int (iI z))) ((bI_f (by omega)).symm), rfl⟩) (by decide) (by decide) dX9_hasSpaceFor_21
    · refine g_iconst (pc := 16) X (iI 1) (by rfl) dX9_hasSpaceFor_16 ?_
      refine g_goto (pc := 17) X 21 (by decide) dX9_hasSpaceFor_17 ?_
      exact g_zret (pc := 21) X hA (rfl) (⟨congrArg (fun z => some (Value.int (iI z))) ((bI_t (by omega)).symm), rfl⟩) (by decide) (by decide) dX9_hasSpaceFor_21

set_option maxHeartbeats 4000000 in
set_option maxRecDepth 100000 in
theorem k_X9_add (l : Launch) (Z : gZ) (t0 : Nat) (t_bytes : Nat) (t_kinds : Nat) (t_places : Nat) (t_values : Nat) (Tb : Nat → Int) (nu : Int) (ts : Int) (tk : Int) (b_nu : (-2147483648) ≤ nu ∧ nu ≤ 2147483647) (b_ts : 0 ≤ ts ∧ ts ≤ 400) (b_tk : 0 ≤ tk ∧ tk ≤ 401) (h_Tb : ∀ j, j < 400 → 0 ≤ Tb j ∧ Tb j ≤ 255) : Con l Z yX9_add cX9_add 3 none 1 21 0 0 [.ref t0, .int (iI nu)] [cO_riirrr t0 9 t_bytes ts tk t_kinds t_places t_values, cA Z t_bytes 0 400 Tb] (fun r w' => ∃ (Tb2 : Nat → Int) (ts2 : Int), (r = none) ∧ (w' = [cO_riirrr t0 9 t_bytes ts2 tk t_kinds t_places t_values, cA Z t_bytes 0 400 Tb2]) ∧ (0 ≤ ts2 ∧ ts2 ≤ 400) ∧ (∀ j, j < 400 → 0 ≤ Tb2 j ∧ Tb2 j ≤ 255) ∧ (ts ≤ 396 → ts2 = ts + 4) ∧ (396 < ts → ts2 = ts)) := by
  refine enter (by decide) (Nat.le_of_ble_eq_true rfl) ?_
  intro p e s m args below meth c A X hnm hA
  have X : Cx p s m args meth c cX9_add 3 none RX9 Z A := X
  refine g_as (pc' := 0) (lv' := [(0, .ref t0), (1, .int (iI nu))]) (st' := []) (ws' := [cO_riirrr t0 9 t_bytes ts tk t_kinds t_places t_values, cA Z t_bytes 0 400 Tb]) rfl rfl rfl rfl ?_
  refine g_aload_n (pc := 0) X 0 rfl dX9_add_0 ?_
  refine g_iconst (pc := 1) X (iI 4) (by rfl) dX9_add_1 ?_
  refine g_callV (pc := 2) X (k_X9_hasSpaceFor l Z t0 t_bytes t_kinds t_places t_values 4 ts tk (by decide) b_ts b_tk) iM_X9_hasSpaceFor mw_10_13 mw_10_5 mw_10_6 0 rfl rfl [0] [1] rfl (wr := [cA Z t_bytes 0 400 Tb]) rfl (by decide) rfl rfl (Nat.le_of_ble_eq_true rfl) (by decide) dX9_add_2 (fun r w' hpo => ?_)
  obtain ⟨rfl, rfl⟩ := hpo
  refine g_as (pc' := 5) (lv' := [(0, .ref t0), (1, .int (iI nu))]) (st' := [.int (iI (bI (0 ≤ 4 ∧ 4 ≤ 400 - ts)))]) (ws' := [cA Z t_bytes 0 400 Tb, cO_riirrr t0 9 t_bytes ts tk t_kinds t_places t_values]) rfl rfl rfl rfl ?_
  refine g_if_neB (pc := 5) X 9 (by decide) dX9_add_5 (fun c5 => ?_) (fun c5 => ?_)
  · refine g_bipush (pc := 9) X (iI 24) (by decide) dX9_add_9 ?_
    refine g_istore_n (pc := 11) X (i := 2) rfl (by decide) (lv' := [(2, .int (iI 24)), (0, .ref t0), (1, .int (iI nu))]) rfl dX9_add_11 ?_
    have loop12 : ∀ (fuel : Nat) (sh : Int) (z : Int) (Tq : Nat → Int), ((-8) ≤ sh ∧ sh ≤ 24) → (0 ≤ z ∧ z ≤ 400) → (∀ j, j < 400 → 0 ≤ Tq j ∧ Tq j ≤ 255) → (8 * (z - ts) = 24 - sh) → (sh + 8).toNat < fuel → Gs p l e ({ frames := 1, cells := 0, slots := 0, locals := 21 } : Room) s m args below meth c (MQ below (gPost Z [cO_riirrr t0 9 t_bytes ts tk t_kinds t_places t_values, cA Z t_bytes 0 400 Tb] s.heap.size (fun r w' => ∃ (Tb2 : Nat → Int) (ts2 : Int), (r = none) ∧ (w' = [cO_riirrr t0 9 t_bytes ts2 tk t_kinds t_places t_values, cA Z t_bytes 0 400 Tb2]) ∧ (0 ≤ ts2 ∧ ts2 ≤ 400) ∧ (∀ j, j < 400 → 0 ≤ Tb2 j ∧ Tb2 j ≤ 255) ∧ (ts ≤ 396 → ts2 = ts + 4) ∧ (396 < ts → ts2 = ts))) args s 0 0 (va_A [cO_riirrr t0 9 t_bytes ts tk t_kinds t_places t_values, cA Z t_bytes 0 400 Tb] s.heap.size)) Z A 3 0 0 12 [(2, .int (iI sh)), (0, .ref t0), (1, .int (iI nu))] [] [cA Z t_bytes 0 400 Tq, cO_riirrr t0 9 t_bytes z tk t_kinds t_places t_values] := by
      intro fuel
      induction fuel with
      | zero => intro sh z Tq _ _ _ _ hm; exact absurd hm (Nat.not_lt_zero _)
      | succ fuel ih =>
        intro sh z Tq b_sh b_z h_Tq iv hm
        refine g_iload_n (pc := 12) X 0 rfl dX9_add_12 ?_
        refine g_if_ltI (pc := 13) X 48 (by decide) (inRb b_sh (by decide) (by decide)) dX9_add_13 (fun c13 => ?_) (fun c13 => ?_)
        · refine g_ws (ws' := [cO_riirrr t0 9 t_bytes z tk t_kinds t_places t_values, cA Z t_bytes 0 400 Tq]) [1, 0] (by decide) rfl ?_
          exact g_vret (pc := 48) X hA (⟨Tq, z, rfl, rfl, (b_z), (h_Tq), (by omega), (by omega)⟩) (by decide) (by decide) dX9_add_48
        · refine g_aload_n (pc := 16) X 1 rfl dX9_add_16 ?_
          refine g_get (pc := 17) X inlX9 1 rfl rfl 0 (by decide) mw_3_12 rfl dX9_add_17 ?_
          refine g_aload_n (pc := 20) X 1 rfl dX9_add_20 ?_
          refine g_get (pc := 21) X inlX9 1 rfl rfl 1 (by decide) mw_10_8 rfl dX9_add_21 ?_
          refine g_iload_n (pc := 24) X 2 rfl dX9_add_24 ?_
          refine g_iload_n (pc := 25) X 0 rfl dX9_add_25 ?_
          refine g_iushr (pc := 26) X dX9_add_26 ?_
          refine g_any (fun y2 by2 => ?_)
          refine g_sipush (pc := 27) X (iI 255) (by decide) dX9_add_27 ?_
          refine g_iandM (pc := 30) X 8 (by decide) (by decide) (by decide) dX9_add_30 (fun y3 by3 => ?_)
          refine g_iastG (pc := 31) X 0 rfl (b_z.1) (by omega) (Int.le_trans b_z.2 (by decide)) (ws' := fun F4 => [cA Z t_bytes 0 400 F4, cO_riirrr t0 9 t_bytes z tk t_kinds t_places t_values]) (fun _ => rfl) dX9_add_31 (fun F4 eF4 => ?_)
          have hF4 : ∀ j, j < 400 → 0 ≤ F4 j ∧ F4 j ≤ 255 := by rw [eF4]; exact updI_B h_Tq (by omega)
          refine g_aload_n (pc := 32) X 1 rfl dX9_add_32 ?_
          refine g_dup (pc := 33) X rfl dX9_add_33 ?_
          refine g_get (pc := 34) X inlX9 1 rfl rfl 1 (by decide) mw_10_8 rfl dX9_add_34 ?_
          refine g_iconst (pc := 37) X (iI 1) (by rfl) dX9_add_37 ?_
          refine g_iaddI (pc := 38) X dX9_add_38 ?_
          refine g_put (pc := 39) X inlX9 tyX9_ok nmX9 1 rfl rfl 1 (by decide) mw_10_8 rfl rfl rfl (Nat.le_of_ble_eq_true rfl) (ws' := [cA Z t_bytes 0 400 F4, cO_riirrr t0 9 t_bytes (z + 1) tk t_kinds t_places t_values]) rfl dX9_add_39 ?_
          refine g_iincI (pc := 42) X 0 rfl (by decide) (lv' := [(2, .int (iI (sh + (-8)))), (0, .ref t0), (1, .int (iI nu))]) rfl dX9_add_42 ?_
          refine g_goto (pc := 45) X 12 (by decide) dX9_add_45 ?_
          exact ih (sh + (-8)) (z + 1) F4 (by omega) (by omega) (hF4) (by omega) (by omega)
    exact loop12 _ 24 ts Tb (by omega) (b_ts) (h_Tb) (by omega) (Nat.lt_succ_self _)
  · refine g_ws (ws' := [cO_riirrr t0 9 t_bytes ts tk t_kinds t_places t_values, cA Z t_bytes 0 400 Tb]) [1, 0] (by decide) rfl ?_
    exact g_vret (pc := 8) X hA (⟨Tb, ts, rfl, rfl, (b_ts), (h_Tb), (by omega), (by omega)⟩) (by decide) (by decide) dX9_add_8

set_option maxHeartbeats 4000000 in
set_option maxRecDepth 100000 in
theorem k_X9_shorten (l : Launch) (Z : gZ) (t0 : Nat) (t_bytes : Nat) (t_kinds : Nat) (t_places : Nat) (t_values : Nat) (le : Int) (ts : Int) (tk : Int) (b_le : (-2147483648) ≤ le ∧ le ≤ 2147483647) (b_ts : 0 ≤ ts ∧ ts ≤ 400) (b_tk : 0 ≤ tk ∧ tk ≤ 401) : Con l Z yX9_shorten cX9_shorten 2 (some .boolean) 1 22 0 0 [.ref t0, .int (iI le)] [cO_riirrr t0 9 t_bytes ts tk t_kinds t_places t_values] (fun r w' => ((r = some (.int (iI 0))) ∧ (w' = [cO_riirrr t0 9 t_bytes ts tk t_kinds t_places t_values]) ∧ (¬ (0 ≤ le ∧ le ≤ ts))) ∨ ((r = some (.int (iI 1))) ∧ (w' = [cO_riirrr t0 9 t_bytes le tk t_kinds t_places t_values]) ∧ (0 ≤ le ∧ le ≤ ts))) := by
  refine enter (by decide) (Nat.le_of_ble_eq_true rfl) ?_
  intro p e s m args below meth c A X hnm hA
  have X : Cx p s m args meth c cX9_shorten 2 (some .boolean) RX9 Z A := X
  refine g_as (pc' := 0) (lv' := [(0, .ref t0), (1, .int (iI le))]) (st' := []) (ws' := [cO_riirrr t0 9 t_bytes ts tk t_kinds t_places t_values]) rfl rfl rfl rfl ?_
  refine g_iconst (pc := 0) X (iI 0) (by rfl) dX9_shorten_0 ?_
  refine g_iload_n (pc := 1) X 1 rfl dX9_shorten_1 ?_
  refine g_aload_n (pc := 2) X 0 rfl dX9_shorten_2 ?_
  refine g_get (pc := 3) X inlX9 0 rfl rfl 1 (by decide) mw_10_8 rfl dX9_shorten_3 ?_
  refine g_callSN (pc := 6) X (k_X11_isFrom l Z 0 le ts (by decide) b_le (by omega)) iM_X11_isFrom (by decide) mw_11_7 [] [0] rfl (wr := [cO_riirrr t0 9 t_bytes ts tk t_kinds t_places t_values]) rfl (by decide) rfl rfl (Nat.le_of_ble_eq_true rfl) (by decide) dX9_shorten_6 (fun r w' hpo => ?_)
  obtain ⟨rfl, rfl⟩ := hpo
  refine g_as (pc' := 9) (lv' := [(0, .ref t0), (1, .int (iI le))]) (st' := [.int (iI (bI (0 ≤ le ∧ le ≤ ts)))]) (ws' := [cO_riirrr t0 9 t_bytes ts tk t_kinds t_places t_values]) rfl rfl rfl rfl ?_
  refine g_if_neB (pc := 9) X 14 (by decide) dX9_shorten_9 (fun c9 => ?_) (fun c9 => ?_)
  · refine g_aload_n (pc := 14) X 0 rfl dX9_shorten_14 ?_
    refine g_iload_n (pc := 15) X 1 rfl dX9_shorten_15 ?_
    refine g_put (pc := 16) X inlX9 tyX9_ok nmX9 0 rfl rfl 1 (by decide) mw_10_8 rfl rfl rfl (Nat.le_of_ble_eq_true rfl) (ws' := [cO_riirrr t0 9 t_bytes le tk t_kinds t_places t_values]) rfl dX9_shorten_16 ?_
    refine g_iconst (pc := 19) X (iI 1) (by rfl) dX9_shorten_19 ?_
    exact g_zret (pc := 20) X hA (rfl) (Or.inr (⟨rfl, rfl, (by omega)⟩)) (by decide) (by decide) dX9_shorten_20
  · refine g_iconst (pc := 12) X (iI 0) (by rfl) dX9_shorten_12 ?_
    exact g_zret (pc := 13) X hA (rfl) (Or.inl (⟨rfl, rfl, (by omega)⟩)) (by decide) (by decide) dX9_shorten_13

set_option maxHeartbeats 4000000 in
set_option maxRecDepth 100000 in
theorem k_X9_addToken (l : Launch) (Z : gZ) (t0 : Nat) (t_bytes : Nat) (t_kinds : Nat) (t_places : Nat) (t_values : Nat) (Tk : Nat → Int) (Tp : Nat → Int) (Tv : Nat → Int) (kd : Int) (pc_ : Int) (va : Int) (ts : Int) (tk : Int) (b_kd : 0 ≤ kd ∧ kd ≤ 10) (b_pc_ : 0 ≤ pc_ ∧ pc_ ≤ 400) (b_va : 0 ≤ va ∧ va ≤ 100000) (b_ts : 0 ≤ ts ∧ ts ≤ 400) (b_tk : 0 ≤ tk ∧ tk ≤ 401) (h_Tk : ∀ j, j < 401 → 0 ≤ Tk j ∧ Tk j ≤ 10) (h_Tp : ∀ j, j < 401 → 0 ≤ Tp j ∧ Tp j ≤ 400) (h_Tv : ∀ j, j < 401 → 0 ≤ Tv j ∧ Tv j ≤ 100000) : Con l Z yX9_addToken cX9_addToken 4 none 0 0 0 0 [.ref t0, .int (iI kd), .int (iI pc_), .int (iI va)] [cO_riirrr t0 9 t_bytes ts tk t_kinds t_places t_values, cA Z t_kinds 0 401 Tk, cA Z t_places 0 401 Tp, cA Z t_values 0 401 Tv] (fun r w' => ∃ (Tk2 : Nat → Int) (Tp2 : Nat → Int) (Tv2 : Nat → Int) (tk2 : Int), (r = none) ∧ (w' = [cO_riirrr t0 9 t_bytes ts tk2 t_kinds t_places t_values, cA Z t_kinds 0 401 Tk2, cA Z t_places 0 401 Tp2, cA Z t_values 0 401 Tv2]) ∧ (0 ≤ tk2 ∧ tk2 ≤ 401) ∧ (∀ j, j < 401 → 0 ≤ Tk2 j ∧ Tk2 j ≤ 10) ∧ (∀ j, j < 401 → 0 ≤ Tp2 j ∧ Tp2 j ≤ 400) ∧ (∀ j, j < 401 → 0 ≤ Tv2 j ∧ Tv2 j ≤ 100000) ∧ (tk ≤ 400 → tk2 = tk + 1) ∧ (tk2 ≤ tk + 1)) := by
  refine enter (by decide) (Nat.le_of_ble_eq_true rfl) ?_
  intro p e s m args below meth c A X hnm hA
  have X : Cx p s m args meth c cX9_addToken 4 none RX9 Z A := X
  refine g_as (pc' := 0) (lv' := [(0, .ref t0), (1, .int (iI kd)), (2, .int (iI pc_)), (3, .int (iI va))]) (st' := []) (ws' := [cO_riirrr t0 9 t_bytes ts tk t_kinds t_places t_values, cA Z t_kinds 0 401 Tk, cA Z t_places 0 401 Tp, cA Z t_values 0 401 Tv]) rfl rfl rfl rfl ?_
  refine g_aload_n (pc := 0) X 0 rfl dX9_addToken_0 ?_
  refine g_get (pc := 1) X inlX9 0 rfl rfl 2 (by decide) mw_12_9 rfl dX9_addToken_1 ?_
  refine g_sipush (pc := 4) X (iI 400) (by decide) dX9_addToken_4 ?_
  refine g_icmp_leI (pc := 7) X 11 (by decide) (inRb b_tk (by decide) (by decide)) ⟨by decide, by decide⟩ dX9_addToken_7 (fun c7 => ?_) (fun c7 => ?_)
  · refine g_aload_n (pc := 11) X 0 rfl dX9_addToken_11 ?_
    refine g_get (pc := 12) X inlX9 0 rfl rfl 3 (by decide) mw_3_13 rfl dX9_addToken_12 ?_
    refine g_aload_n (pc := 15) X 0 rfl dX9_addToken_15 ?_
    refine g_get (pc := 16) X inlX9 0 rfl rfl 2 (by decide) mw_12_9 rfl dX9_addToken_16 ?_
    refine g_iload_n (pc := 19) X 1 rfl dX9_addToken_19 ?_
    refine g_iastG (pc := 20) X 1 rfl (b_tk.1) (by (first | (clear b_kd b_pc_ b_va b_ts; omega) | omega)) (Int.le_trans b_tk.2 (by decide)) (ws' := fun F1 => [cO_riirrr t0 9 t_bytes ts tk t_kinds t_places t_values, cA Z t_kinds 0 401 F1, cA Z t_places 0 401 Tp, cA Z t_values 0 401 Tv]) (fun _ => rfl) dX9_addToken_20 (fun F1 eF1 => ?_)
    have hF1 : ∀ j, j < 401 → 0 ≤ F1 j ∧ F1 j ≤ 10 := by rw [eF1]; exact updI_B h_Tk (by (first | (clear b_kd b_pc_ b_va b_ts; omega) | omega))
    refine g_aload_n (pc := 21) X 0 rfl dX9_addToken_21 ?_
    refine g_get (pc := 22) X inlX9 0 rfl rfl 4 (by decide) mw_3_14 rfl dX9_addToken_22 ?_
    refine g_aload_n (pc := 25) X 0 rfl dX9_addToken_25 ?_
    refine g_get (pc := 26) X inlX9 0 rfl rfl 2 (by decide) mw_12_9 rfl dX9_addToken_26 ?_
    refine g_iload_n (pc := 29) X 2 rfl dX9_addToken_29 ?_
    refine g_iastG (pc := 30) X 2 rfl (b_tk.1) (by (first | (clear b_kd b_pc_ b_va b_ts; omega) | omega)) (Int.le_trans b_tk.2 (by decide)) (ws' := fun F2 => [cO_riirrr t0 9 t_bytes ts tk t_kinds t_places t_values, cA Z t_kinds 0 401 F1, cA Z t_places 0 401 F2, cA Z t_values 0 401 Tv]) (fun _ => rfl) dX9_addToken_30 (fun F2 eF2 => ?_)
    have hF2 : ∀ j, j < 401 → 0 ≤ F2 j ∧ F2 j ≤ 400 := by rw [eF2]; exact updI_B h_Tp (by (first | (clear b_kd b_pc_ b_va b_ts; omega) | omega))
    refine g_aload_n (pc := 31) X 0 rfl dX9_addToken_31 ?_
    refine g_get (pc := 32) X inlX9 0 rfl rfl 5 (by decide) mw_3_15 rfl dX9_addToken_32 ?_
    refine g_aload_n (pc := 35) X 0 rfl dX9_addToken_35 ?_
    refine g_get (pc := 36) X inlX9 0 rfl rfl 2 (by decide) mw_12_9 rfl dX9_addToken_36 ?_
    refine g_iload_n (pc := 39) X 3 rfl dX9_addToken_39 ?_
    refine g_iastG (pc := 40) X 3 rfl (b_tk.1) (by (first | (clear b_kd b_pc_ b_va b_ts; omega) | omega)) (Int.le_trans b_tk.2 (by decide)) (ws' := fun F3 => [cO_riirrr t0 9 t_bytes ts tk t_kinds t_places t_values, cA Z t_kinds 0 401 F1, cA Z t_places 0 401 F2, cA Z t_values 0 401 F3]) (fun _ => rfl) dX9_addToken_40 (fun F3 eF3 => ?_)
    have hF3 : ∀ j, j < 401 → 0 ≤ F3 j ∧ F3 j ≤ 100000 := by rw [eF3]; exact updI_B h_Tv (by (first | (clear b_kd b_pc_ b_va b_ts; omega) | omega))
    refine g_aload_n (pc := 41) X 0 rfl dX9_addToken_41 ?_
    refine g_dup (pc := 42) X rfl dX9_addToken_42 ?_
    refine g_get (pc := 43) X inlX9 0 rfl rfl 2 (by decide) mw_12_9 rfl dX9_addToken_43 ?_
    refine g_iconst (pc := 46) X (iI 1) (by rfl) dX9_addToken_46 ?_
    refine g_iaddI (pc := 47) X dX9_addToken_47 ?_
    refine g_put (pc := 48) X inlX9 tyX9_ok nmX9 0 rfl rfl 2 (by decide) mw_12_9 rfl rfl rfl (Nat.le_of_ble_eq_true rfl) (ws' := [cO_riirrr t0 9 t_bytes ts (tk + 1) t_kinds t_places t_values, cA Z t_kinds 0 401 F1, cA Z t_places 0 401 F2, cA Z t_values 0 401 F3]) rfl dX9_addToken_48 ?_
    exact g_vret (pc := 51) X hA (⟨F1, F2, F3, (tk + 1), rfl, rfl, (by (first | (clear b_kd b_pc_ b_va b_ts; omega) | omega)), (hF1), (hF2), (hF3), (by (first | (clear b_kd b_pc_ b_va b_ts; omega) | omega)), (by (first | (clear b_kd b_pc_ b_va b_ts; omega) | omega))⟩) (by decide) (by decide) dX9_addToken_51
  · exact g_vret (pc := 10) X hA (⟨Tk, Tp, Tv, tk, rfl, rfl, (b_tk), (h_Tk), (h_Tp), (h_Tv), (by (first | (clear b_kd b_pc_ b_va b_ts; omega) | omega)), (by (first | (clear b_kd b_pc_ b_va b_ts; omega) | omega))⟩) (by decide) (by decide) dX9_addToken_10

set_option maxHeartbeats 4000000 in
set_option maxRecDepth 100000 in
theorem k_X9_endOf (l : Launch) (Z : gZ) (t0 : Nat) (t_bytes : Nat) (t_kinds : Nat) (t_places : Nat) (t_values : Nat) (Tb : Nat → Int) (pl : Int) (lo : Int) (hi : Int) (ts : Int) (tk : Int) (b_pl : 0 ≤ pl ∧ pl ≤ 400) (b_lo : (-2147483648) ≤ lo ∧ lo ≤ 2147483647) (b_hi : (-2147483648) ≤ hi ∧ hi ≤ 2147483647) (b_ts : 0 ≤ ts ∧ ts ≤ 400) (b_tk : 0 ≤ tk ∧ tk ≤ 401) (h_Tb : ∀ j, j < 400 → 0 ≤ Tb j ∧ Tb j ≤ 255) : Con l Z yX9_endOf cX9_endOf 5 (some .int) 1 22 0 0 [.ref t0, .int (iI pl), .int (iI lo), .int (iI hi)] [cO_riirrr t0 9 t_bytes ts tk t_kinds t_places t_values, cA Z t_bytes 0 400 Tb] (fun r w' => ∃ (y : Int), (r = some (.int (iI y))) ∧ (w' = [cO_riirrr t0 9 t_bytes ts tk t_kinds t_places t_values, cA Z t_bytes 0 400 Tb]) ∧ (0 ≤ y ∧ y ≤ 400) ∧ (pl ≤ y) ∧ (y ≤ ts ∨ y = pl) ∧ (∀ j : Nat, pl ≤ j → (j : Int) < y → lo ≤ Tb j ∧ Tb j ≤ hi)) := by
  refine enter (by decide) (Nat.le_of_ble_eq_true rfl) ?_
  intro p e s m args below meth c A X hnm hA
  have X : Cx p s m args meth c cX9_endOf 5 (some .int) RX9 Z A := X
  refine g_as (pc' := 0) (lv' := [(0, .ref t0), (1, .int (iI pl)), (2, .int (iI lo)), (3, .int (iI hi))]) (st' := []) (ws' := [cO_riirrr t0 9 t_bytes ts tk t_kinds t_places t_values, cA Z t_bytes 0 400 Tb]) rfl rfl rfl rfl ?_
  refine g_iload_n (pc := 0) X 1 rfl dX9_endOf_0 ?_
  refine g_istore (pc := 1) X (by decide) (lv' := [(4, .int (iI pl)), (0, .ref t0), (1, .int (iI pl)), (2, .int (iI lo)), (3, .int (iI hi))]) rfl dX9_endOf_1 ?_
  have loop3 : ∀ (fuel : Nat) (i : Int), (0 ≤ i ∧ i ≤ 400) → (pl ≤ i) → (i ≤ ts ∨ i = pl) → (∀ j : Nat, pl ≤ j → (j : Int) < i → lo ≤ Tb j ∧ Tb j ≤ hi) → (401 - i).toNat < fuel → Gs p l e ({ frames := 1, cells := 0, slots := 0, locals := 22 } : Room) s m args below meth c (MQ below (gPost Z [cO_riirrr t0 9 t_bytes ts tk t_kinds t_places t_values, cA Z t_bytes 0 400 Tb] s.heap.size (fun r w' => ∃ (y : Int), (r = some (.int (iI y))) ∧ (w' = [cO_riirrr t0 9 t_bytes ts tk t_kinds t_places t_values, cA Z t_bytes 0 400 Tb]) ∧ (0 ≤ y ∧ y ≤ 400) ∧ (pl ≤ y) ∧ (y ≤ ts ∨ y = pl) ∧ (∀ j : Nat, pl ≤ j → (j : Int) < y → lo ≤ Tb j ∧ Tb j ≤ hi))) args s 0 0 (va_A [cO_riirrr t0 9 t_bytes ts tk t_kinds t_places t_values, cA Z t_bytes 0 400 Tb] s.heap.size)) Z A 5 0 0 3 [(4, .int (iI i)), (0, .ref t0), (1, .int (iI pl)), (2, .int (iI lo)), (3, .int (iI hi))] [] [cO_riirrr t0 9 t_bytes ts tk t_kinds t_places t_values, cA Z t_bytes 0 400 Tb] := by
    intro fuel
    induction fuel with
    | zero => intro i _ _ _ _ hm; exact absurd hm (Nat.not_lt_zero _)
    | succ fuel ih =>
      intro i b_i iv iv2 iv3 hm
      refine g_iload (pc := 3) X 0 rfl dX9_endOf_3 ?_
      refine g_aload_n (pc := 5) X 1 rfl dX9_endOf_5 ?_
      refine g_get (pc := 6) X inlX9 0 rfl rfl 1 (by decide) mw_10_8 rfl dX9_endOf_6 ?_
      refine g_icmp_geI (pc := 9) X 33 (by decide) (inRb b_i (by decide) (by decide)) (inRb b_ts (by decide) (by decide)) dX9_endOf_9 (fun c9 => ?_) (fun c9 => ?_)
      · refine g_iload (pc := 33) X 0 rfl dX9_endOf_33 ?_
        exact g_iret (pc := 35) X hA (⟨i, rfl, rfl, (b_i), (by omega), (by omega), (iv3)⟩) (by decide) (by decide) dX9_endOf_35
      · refine g_iload_n (pc := 12) X 3 rfl dX9_endOf_12 ?_
        refine g_aload_n (pc := 13) X 1 rfl dX9_endOf_13 ?_
        refine g_get (pc := 14) X inlX9 0 rfl rfl 0 (by decide) mw_3_12 rfl dX9_endOf_14 ?_
        refine g_iload (pc := 17) X 0 rfl dX9_endOf_17 ?_
        refine g_ialdI (pc := 19) X 1 rfl (b_i.1) (by omega) (Int.le_trans b_i.2 (by decide)) dX9_endOf_19 ?_
        refine g_nameI (fun y1 ey1 => ?_)
        have by1 : 0 ≤ y1 ∧ y1 ≤ 255 := by rw [ey1]; exact h_Tb _ (by omega)
        refine g_iload_n (pc := 20) X 4 rfl dX9_endOf_20 ?_
        refine g_callSN (pc := 21) X (k_X11_isFrom l Z lo y1 hi b_lo (by omega) b_hi) iM_X11_isFrom (by decide) mw_11_7 [] [0, 1] rfl (wr := [cO_riirrr t0 9 t_bytes ts tk t_kinds t_places t_values, cA Z t_bytes 0 400 Tb]) rfl (by decide) rfl rfl (Nat.le_of_ble_eq_true rfl) (by decide) dX9_endOf_21 (fun r w' hpo => ?_)
        obtain ⟨rfl, rfl⟩ := hpo
        refine g_as (pc' := 24) (lv' := [(4, .int (iI i)), (0, .ref t0), (1, .int (iI pl)), (2, .int (iI lo)), (3, .int (iI hi))]) (st' := [.int (iI (bI (lo ≤ y1 ∧ y1 ≤ hi)))]) (ws' := [cO_riirrr t0 9 t_bytes ts tk t_kinds t_places t_values, cA Z t_bytes 0 400 Tb]) rfl rfl rfl rfl ?_
        refine g_if_eqB (pc := 24) X 33 (by decide) dX9_endOf_24 (fun c24 => ?_) (fun c24 => ?_)
        · refine g_iload (pc := 33) X 0 rfl dX9_endOf_33 ?_
          exact g_iret (pc := 35) X hA (⟨i, rfl, rfl, (b_i), (by omega), (by omega), (iv3)⟩) (by decide) (by decide) dX9_endOf_35
        · refine g_iincI (pc := 27) X 0 rfl (by decide) (lv' := [(4, .int (iI (i + 1))), (0, .ref t0), (1, .int (iI pl)), (2, .int (iI lo)), (3, .int (iI hi))]) rfl dX9_endOf_27 ?_
          refine g_goto (pc := 30) X 3 (by decide) dX9_endOf_30 ?_
          exact ih (i + 1) (by omega) (by omega) (by omega) (fun j h1 h2 => stepE iv3 (by omega) c24 ey1 j h1 h2) (by omega)
  exact loop3 _ pl (b_pl) (by omega) (by omega) (fun j h1 h2 => absurd h2 (by omega)) (Nat.lt_succ_self _)

set_option maxHeartbeats 4000000 in
set_option maxRecDepth 100000 in
theorem k_X9_numberFrom (l : Launch) (Z : gZ) (t0 : Nat) (t_bytes : Nat) (t_kinds : Nat) (t_places : Nat) (t_values : Nat) (Tb : Nat → Int) (fr : Int) (to : Int) (ts : Int) (tk : Int) (b_fr : 0 ≤ fr ∧ fr ≤ 400) (b_to : 0 ≤ to ∧ to ≤ 400) (b_ts : 0 ≤ ts ∧ ts ≤ 400) (b_tk : 0 ≤ tk ∧ tk ≤ 401) (hd : ∀ j : Nat, fr ≤ j → (j : Int) < to → 48 ≤ Tb j ∧ Tb j ≤ 57) (h_Tb : ∀ j, j < 400 → 0 ≤ Tb j ∧ Tb j ≤ 255) : Con l Z yX9_numberFrom cX9_numberFrom 5 (some .int) 1 24 0 0 [.ref t0, .int (iI fr), .int (iI to)] [cO_riirrr t0 9 t_bytes ts tk t_kinds t_places t_values, cA Z t_bytes 0 400 Tb] (fun r w' => ∃ (y : Int), (r = some (.int (iI y))) ∧ (w' = [cO_riirrr t0 9 t_bytes ts tk t_kinds t_places t_values, cA Z t_bytes 0 400 Tb]) ∧ (0 ≤ y ∧ y ≤ 100000)) := by
  refine enter (by decide) (Nat.le_of_ble_eq_true rfl) ?_
  intro p e s m args below meth c A X hnm hA
  have X : Cx p s m args meth c cX9_numberFrom 5 (some .int) RX9 Z A := X
  refine g_as (pc' := 0) (lv' := [(0, .ref t0), (1, .int (iI fr)), (2, .int (iI to))]) (st' := []) (ws' := [cO_riirrr t0 9 t_bytes ts tk t_kinds t_places t_values, cA Z t_bytes 0 400 Tb]) rfl rfl rfl rfl ?_
  refine g_iconst (pc := 0) X (iI 0) (by rfl) dX9_numberFrom_0 ?_
  refine g_istore_n (pc := 1) X (i := 3) rfl (by decide) (lv' := [(3, .int (iI 0)), (0, .ref t0), (1, .int (iI fr)), (2, .int (iI to))]) rfl dX9_numberFrom_1 ?_
  refine g_iload_n (pc := 2) X 2 rfl dX9_numberFrom_2 ?_
  refine g_istore (pc := 3) X (by decide) (lv' := [(4, .int (iI fr)), (3, .int (iI 0)), (0, .ref t0), (1, .int (iI fr)), (2, .int (iI to))]) rfl dX9_numberFrom_3 ?_
  have loop5 : ∀ (fuel : Nat) (v : Int) (i : Int), (0 ≤ v ∧ v ≤ 100000) → (0 ≤ i ∧ i ≤ 400) → (fr ≤ i) → (401 - i).toNat < fuel → Gs p l e ({ frames := 1, cells := 0, slots := 0, locals := 24 } : Room) s m args below meth c (MQ below (gPost Z [cO_riirrr t0 9 t_bytes ts tk t_kinds t_places t_values, cA Z t_bytes 0 400 Tb] s.heap.size (fun r w' => ∃ (y : Int), (r = some (.int (iI y))) ∧ (w' = [cO_riirrr t0 9 t_bytes ts tk t_kinds t_places t_values, cA Z t_bytes 0 400 Tb]) ∧ (0 ≤ y ∧ y ≤ 100000))) args s 0 0 (va_A [cO_riirrr t0 9 t_bytes ts tk t_kinds t_places t_values, cA Z t_bytes 0 400 Tb] s.heap.size)) Z A 5 0 0 5 [(4, .int (iI i)), (3, .int (iI v)), (0, .ref t0), (1, .int (iI fr)), (2, .int (iI to))] [] [cO_riirrr t0 9 t_bytes ts tk t_kinds t_places t_values, cA Z t_bytes 0 400 Tb] := by
    intro fuel
    induction fuel with
    | zero => intro v i _ _ _ hm; exact absurd hm (Nat.not_lt_zero _)
    | succ fuel ih =>
      intro v i b_v b_i iv hm
      refine g_iload (pc := 5) X 0 rfl dX9_numberFrom_5 ?_
      refine g_iload_n (pc := 7) X 4 rfl dX9_numberFrom_7 ?_
      refine g_icmp_geI (pc := 8) X 38 (by decide) (inRb b_i (by decide) (by decide)) (inRb b_to (by decide) (by decide)) dX9_numberFrom_8 (fun c8 => ?_) (fun c8 => ?_)
      · refine g_iload_n (pc := 38) X 1 rfl dX9_numberFrom_38 ?_
        exact g_iret (pc := 39) X hA (⟨v, rfl, rfl, (b_v)⟩) (by decide) (by decide) dX9_numberFrom_39
      · refine g_ldc (pc := 11) X mw_15_11 dX9_numberFrom_11 ?_
        refine g_lit (y := iI 100000) (by decide) ?_
        refine g_iload_n (pc := 13) X 1 rfl dX9_numberFrom_13 ?_
        refine g_bipush (pc := 14) X (iI 10) (by decide) dX9_numberFrom_14 ?_
        refine g_imulI (pc := 16) X dX9_numberFrom_16 ?_
        refine g_aload_n (pc := 17) X 2 rfl dX9_numberFrom_17 ?_
        refine g_get (pc := 18) X inlX9 0 rfl rfl 0 (by decide) mw_3_12 rfl dX9_numberFrom_18 ?_
        refine g_iload (pc := 21) X 0 rfl dX9_numberFrom_21 ?_
        refine g_ialdI (pc := 23) X 1 rfl (b_i.1) (by omega) (Int.le_trans b_i.2 (by decide)) dX9_numberFrom_23 ?_
        refine g_nameI (fun y1 ey1 => ?_)
        have by1 : 0 ≤ y1 ∧ y1 ≤ 255 := by rw [ey1]; exact h_Tb _ (by omega)
        have ty1 : 48 ≤ y1 ∧ y1 ≤ 57 := by rw [ey1]; exact hd _ (by omega) (by omega)
        refine g_iaddI (pc := 24) X dX9_numberFrom_24 ?_
        refine g_bipush (pc := 25) X (iI 48) (by decide) dX9_numberFrom_25 ?_
        refine g_isubI (pc := 27) X dX9_numberFrom_27 ?_
        refine g_minI (pc := 28) X mw_15_12 mw_15_13 mw_25_23 mw_15_14 (by decide) (Nat.le_of_ble_eq_true rfl) (by decide) (by decide) ⟨by decide, by decide⟩ ⟨by omega, by omega⟩ dX9_numberFrom_28 ?_
        refine g_nameI (fun y2 ey2 => ?_)
        have my2 : y2 ≤ 100000 ∧ y2 ≤ ((v * 10) + y1) - 48 ∧ (y2 = 100000 ∨ y2 = ((v * 10) + y1) - 48) := by rw [ey2]; exact minF _ _
        clear ey2
        refine g_istore_n (pc := 31) X (i := 3) rfl (by decide) (lv' := [(3, .int (iI y2)), (4, .int (iI i)), (0, .ref t0), (1, .int (iI fr)), (2, .int (iI to))]) rfl dX9_numberFrom_31 ?_
        refine g_iincI (pc := 32) X 1 rfl (by decide) (lv' := [(4, .int (iI (i + 1))), (3, .int (iI y2)), (0, .ref t0), (1, .int (iI fr)), (2, .int (iI to))]) rfl dX9_numberFrom_32 ?_
        refine g_goto (pc := 35) X 5 (by decide) dX9_numberFrom_35 ?_
        exact ih y2 (i + 1) (by omega) (by omega) (by omega) (by omega)
  exact loop5 _ 0 fr (by omega) (b_fr) (by omega) (Nat.lt_succ_self _)

set_option maxHeartbeats 4000000 in
set_option maxRecDepth 100000 in
theorem k_X9_signKind (l : Launch) (Z : gZ) (sg : Int) (b_sg : (-2147483648) ≤ sg ∧ sg ≤ 2147483647) : Con l Z yX9_signKind cX9_signKind 1 (some .int) 0 0 0 0 [.int (iI sg)] [] (fun r w' => ∃ (y : Int), (r = some (.int (iI y))) ∧ (w' = []) ∧ (7 ≤ y ∧ y ≤ 9)) := by
  refine enter (by decide) (Nat.le_of_ble_eq_true rfl) ?_
  intro p e s m args below meth c A X hnm hA
  have X : Cx p s m args meth c cX9_signKind 1 (some .int) RX9 Z A := X
  refine g_as (pc' := 0) (lv' := [(0, .int (iI sg))]) (st' := []) (ws' := []) rfl rfl rfl rfl ?_
  refine g_iload_n (pc := 0) X 0 rfl dX9_signKind_0 ?_
  refine g_bipush (pc := 1) X (iI 45) (by decide) dX9_signKind_1 ?_
  refine g_icmp_neI (pc := 3) X 9 (by decide) b_sg ⟨by decide, by decide⟩ dX9_signKind_3 (fun c3 => ?_) (fun c3 => ?_)
  · refine g_iload_n (pc := 9) X 0 rfl dX9_signKind_9 ?_
    refine g_bipush (pc := 10) X (iI 59) (by decide) dX9_signKind_10 ?_
    refine g_icmp_neI (pc := 12) X 20 (by decide) b_sg ⟨by decide, by decide⟩ dX9_signKind_12 (fun c12 => ?_) (fun c12 => ?_)
    · refine g_bipush (pc := 20) X (iI 9) (by decide) dX9_signKind_20 ?_
      exact g_iret (pc := 22) X hA (⟨9, rfl, rfl, (by omega)⟩) (by decide) (by decide) dX9_signKind_22
    · refine g_bipush (pc := 15) X (iI 8) (by decide) dX9_signKind_15 ?_
      refine g_goto (pc := 17) X 22 (by decide) dX9_signKind_17 ?_
      exact g_iret (pc := 22) X hA (⟨8, rfl, rfl, (by omega)⟩) (by decide) (by decide) dX9_signKind_22
  · refine g_bipush (pc := 6) X (iI 7) (by decide) dX9_signKind_6 ?_
    exact g_iret (pc := 8) X hA (⟨7, rfl, rfl, (by omega)⟩) (by decide) (by decide) dX9_signKind_8
