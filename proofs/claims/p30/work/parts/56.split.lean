set_option maxHeartbeats 4000000 in
set_option maxRecDepth 100000 in
theorem k_X9_spells (l : Launch) (Z : gZ) (t0 : Nat) (t_bytes : Nat) (t_kinds : Nat) (t_places : Nat) (t_values : Nat) (sj : Nat) (Tb : Nat → Int) (fr : Int) (to : Int) (ts : Int) (tk : Int) (b_fr : 0 ≤ fr ∧ fr ≤ 400) (b_to : 0 ≤ to ∧ to ≤ 400) (b_ts : 0 ≤ ts ∧ ts ≤ 400) (b_tk : 0 ≤ tk ∧ tk ≤ 401) (hsj : sj < 5) (h_Tb : ∀ j, j < 400 → 0 ≤ Tb j ∧ Tb j ≤ 255) : Con l Z yX9_spells cX9_spells 5 (some .boolean) 4 85 0 0 [.ref t0, .ref (Z.2.2.1 sj), .int (iI fr), .int (iI to)] [cO_riirrr t0 9 t_bytes ts tk t_kinds t_places t_values, cA Z t_bytes 0 400 Tb] (fun r w' => ∃ (y : Int), (r = some (.int (iI y))) ∧ (w' = [cO_riirrr t0 9 t_bytes ts tk t_kinds t_places t_values, cA Z t_bytes 0 400 Tb]) ∧ (0 ≤ y ∧ y ≤ 1)) := by
  refine enter (by decide) (Nat.le_of_ble_eq_true rfl) ?_
  intro p e s m args below meth c A X hnm hA
  have X : Cx p s m args meth c cX9_spells 5 (some .boolean) RX9 Z A := X
  refine g_as (pc' := 0) (lv' := [(0, .ref t0), (1, .ref (Z.2.2.1 sj)), (2, .int (iI fr)), (3, .int (iI to))]) (st' := []) (ws' := [cO_riirrr t0 9 t_bytes ts tk t_kinds t_places t_values, cA Z t_bytes 0 400 Tb]) rfl rfl rfl rfl ?_
  refine g_iload_n (pc := 0) X 3 rfl dX9_spells_0 ?_
  refine g_iload_n (pc := 1) X 2 rfl dX9_spells_1 ?_
  refine g_isubI (pc := 2) X dX9_spells_2 ?_
  refine g_aload_n (pc := 3) X 1 rfl dX9_spells_3 ?_
  refine g_callVS (pc := 4) (j := sj) X hsj (k_J0_length_8abf5 l Z sj (hsj)) iM_J0_length_8abf5 rfl mw_13_2 mw_13_3 mw_13_4 [] [0, 1] rfl (wr := [cO_riirrr t0 9 t_bytes ts tk t_kinds t_places t_values, cA Z t_bytes 0 400 Tb]) rfl (by decide) rfl rfl (Nat.le_of_ble_eq_true rfl) (by decide) dX9_spells_4 (fun r w' hpo => ?_)
  obtain ⟨rfl, rfl, hf4_fl⟩ := hpo
  refine g_as (pc' := 7) (lv' := [(0, .ref t0), (1, .ref (Z.2.2.1 sj)), (2, .int (iI fr)), (3, .int (iI to))]) (st' := [.int (iI ((gLen.getD sj 0 : Nat) : Int)), .int (iI (to - fr))]) (ws' := [cO_riirrr t0 9 t_bytes ts tk t_kinds t_places t_values, cA Z t_bytes 0 400 Tb]) rfl rfl rfl rfl ?_
  refine g_icmp_eqI (pc := 7) X 12 (by decide) ⟨by omega, by omega⟩ ⟨by omega, by omega⟩ dX9_spells_7 (fun c7 => ?_) (fun c7 => ?_)
  · refine g_iconst (pc := 12) X (iI 0) (by rfl) dX9_spells_12 ?_
    refine g_istore (pc := 13) X (by decide) (lv' := [(4, .int (iI 0)), (0, .ref t0), (1, .ref (Z.2.2.1 sj)), (2, .int (iI fr)), (3, .int (iI to))]) rfl dX9_spells_13 ?_
    have loop15 : ∀ (fuel : Nat) (i : Int), (0 ≤ i ∧ i ≤ 7) → (((gLen.getD sj 0 : Nat) : Int) ≤ 6) → (to - fr = ((gLen.getD sj 0 : Nat) : Int)) → (8 - i).toNat < fuel → Gs p l e ({ frames := 4, cells := 0, slots := 0, locals := 85 } : Room) s m args below meth c (MQ below (gPost Z [cO_riirrr t0 9 t_bytes ts tk t_kinds t_places t_values, cA Z t_bytes 0 400 Tb] s.heap.size (fun r w' => ∃ (y : Int), (r = some (.int (iI y))) ∧ (w' = [cO_riirrr t0 9 t_bytes ts tk t_kinds t_places t_values, cA Z t_bytes 0 400 Tb]) ∧ (0 ≤ y ∧ y ≤ 1))) args s 0 0 (va_A [cO_riirrr t0 9 t_bytes ts tk t_kinds t_places t_values, cA Z t_bytes 0 400 Tb] s.heap.size)) Z A 5 0 0 15 [(4, .int (iI i)), (0, .ref t0), (1, .ref (Z.2.2.1 sj)), (2, .int (iI fr)), (3, .int (iI to))] [] [cO_riirrr t0 9 t_bytes ts tk t_kinds t_places t_values, cA Z t_bytes 0 400 Tb] := by
      intro fuel
      induction fuel with
      | zero => intro i _ _ _ hm; exact absurd hm (Nat.not_lt_zero _)
      | succ fuel ih =>
        intro i b_i hL iv hm
        refine g_iload (pc := 15) X 0 rfl dX9_spells_15 ?_
        refine g_aload_n (pc := 17) X 2 rfl dX9_spells_17 ?_
        refine g_callVS (pc := 18) (j := sj) X hsj (k_J0_length_8abf5 l Z sj (hsj)) iM_J0_length_8abf5 rfl mw_13_2 mw_13_3 mw_13_4 [] [0, 1] rfl (wr := [cO_riirrr t0 9 t_bytes ts tk t_kinds t_places t_values, cA Z t_bytes 0 400 Tb]) rfl (by decide) rfl rfl (Nat.le_of_ble_eq_true rfl) (by decide) dX9_spells_18 (fun r w' hpo => ?_)
        obtain ⟨rfl, rfl, hf18_fl⟩ := hpo
        refine g_as (pc' := 21) (lv' := [(4, .int (iI i)), (0, .ref t0), (1, .ref (Z.2.2.1 sj)), (2, .int (iI fr)), (3, .int (iI to))]) (st' := [.int (iI ((gLen.getD sj 0 : Nat) : Int)), .int (iI i)]) (ws' := [cO_riirrr t0 9 t_bytes ts tk t_kinds t_places t_values, cA Z t_bytes 0 400 Tb]) rfl rfl rfl rfl ?_
        refine g_icmp_geI (pc := 21) X 50 (by decide) (inRb b_i (by decide) (by decide)) ⟨by omega, by omega⟩ dX9_spells_21 (fun c21 => ?_) (fun c21 => ?_)
        · refine g_iconst (pc := 50) X (iI 1) (by rfl) dX9_spells_50 ?_
          exact g_zret (pc := 51) X hA (rfl) (⟨1, rfl, rfl, (by omega)⟩) (by decide) (by decide) dX9_spells_51
        · refine g_aload_n (pc := 24) X 1 rfl dX9_spells_24 ?_
          refine g_get (pc := 25) X inlX9 0 rfl rfl 0 (by decide) mw_3_12 rfl dX9_spells_25 ?_
          refine g_iload_n (pc := 28) X 3 rfl dX9_spells_28 ?_
          refine g_iload (pc := 29) X 0 rfl dX9_spells_29 ?_
          refine g_iaddI (pc := 31) X dX9_spells_31 ?_
          refine g_ialdI (pc := 32) X 1 rfl (by omega) (by omega) (by omega) dX9_spells_32 ?_
          refine g_nameI (fun y3 ey3 => ?_)
          have by3 : 0 ≤ y3 ∧ y3 ≤ 255 := by rw [ey3]; exact h_Tb _ (by omega)
          refine g_aload_n (pc := 33) X 2 rfl dX9_spells_33 ?_
          refine g_iload (pc := 34) X 0 rfl dX9_spells_34 ?_
          refine g_callVS (pc := 36) (j := sj) X hsj (k_J0_charAt_5068e l Z sj i (by omega) (hsj) (by omega)) iM_J0_charAt_5068e rfl mw_13_14 mw_13_15 mw_13_16 [] [0, 1] rfl (wr := [cO_riirrr t0 9 t_bytes ts tk t_kinds t_places t_values, cA Z t_bytes 0 400 Tb]) rfl (by decide) rfl rfl (Nat.le_of_ble_eq_true rfl) (by decide) dX9_spells_36 (fun r w' hpo => ?_)
          obtain ⟨rfl, rfl, hf36_fc⟩ := hpo
          refine g_as (pc' := 39) (lv' := [(4, .int (iI i)), (0, .ref t0), (1, .ref (Z.2.2.1 sj)), (2, .int (iI fr)), (3, .int (iI to))]) (st' := [.int (iI (gCh sj (i).toNat)), .int (iI y3)]) (ws' := [cO_riirrr t0 9 t_bytes ts tk t_kinds t_places t_values, cA Z t_bytes 0 400 Tb]) rfl rfl rfl rfl ?_
          refine g_icmp_eqI (pc := 39) X 44 (by decide) (inRb by3 (by decide) (by decide)) ⟨by omega, by omega⟩ dX9_spells_39 (fun c39 => ?_) (fun c39 => ?_)
          · refine g_iincI (pc := 44) X 0 rfl (by decide) (lv' := [(4, .int (iI (i + 1))), (0, .ref t0), (1, .ref (Z.2.2.1 sj)), (2, .int (iI fr)), (3, .int (iI to))]) rfl dX9_spells_44 ?_
            refine g_goto (pc := 47) X 15 (by decide) dX9_spells_47 ?_
            exact ih (i + 1) (by omega) (by omega) (by omega) (by omega)
          · refine g_iconst (pc := 42) X (iI 0) (by rfl) dX9_spells_42 ?_
            exact g_zret (pc := 43) X hA (rfl) (⟨0, rfl, rfl, (by omega)⟩) (by decide) (by decide) dX9_spells_43
    exact loop15 _ 0 (by omega) (by have := (gCh_ok sj hsj).1; omega) (by omega) (Nat.lt_succ_self _)
  · refine g_iconst (pc := 10) X (iI 0) (by rfl) dX9_spells_10 ?_
    exact g_zret (pc := 11) X hA (rfl) (⟨0, rfl, rfl, (by omega)⟩) (by decide) (by decide) dX9_spells_11

set_option maxHeartbeats 4000000 in
set_option maxRecDepth 100000 in
theorem k_X9_wordKind (l : Launch) (Z : gZ) (t0 : Nat) (t_bytes : Nat) (t_kinds : Nat) (t_places : Nat) (t_values : Nat) (Tb : Nat → Int) (fr : Int) (to : Int) (ts : Int) (tk : Int) (b_fr : 0 ≤ fr ∧ fr ≤ 400) (b_to : 0 ≤ to ∧ to ≤ 400) (b_ts : 0 ≤ ts ∧ ts ≤ 400) (b_tk : 0 ≤ tk ∧ tk ≤ 401) (h_Tb : ∀ j, j < 400 → 0 ≤ Tb j ∧ Tb j ≤ 255) : Con l Z yX9_wordKind cX9_wordKind 3 (some .int) 5 109 0 0 [.ref t0, .int (iI fr), .int (iI to)] [cO_riirrr t0 9 t_bytes ts tk t_kinds t_places t_values, cA Z t_bytes 0 400 Tb] (fun r w' => ∃ (y : Int), (r = some (.int (iI y))) ∧ (w' = [cO_riirrr t0 9 t_bytes ts tk t_kinds t_places t_values, cA Z t_bytes 0 400 Tb]) ∧ (0 ≤ y ∧ y ≤ 5)) := by
  refine enter (by decide) (Nat.le_of_ble_eq_true rfl) ?_
  intro p e s m args below meth c A X hnm hA
  have X : Cx p s m args meth c cX9_wordKind 3 (some .int) RX9 Z A := X
  refine g_as (pc' := 0) (lv' := [(0, .ref t0), (1, .int (iI fr)), (2, .int (iI to))]) (st' := []) (ws' := [cO_riirrr t0 9 t_bytes ts tk t_kinds t_places t_values, cA Z t_bytes 0 400 Tb]) rfl rfl rfl rfl ?_
  refine g_aload_n (pc := 0) X 0 rfl dX9_wordKind_0 ?_
  refine g_ldcS (pc := 1) X (tx := "wall") (j := 0) (by decide) dX9_wordKind_1 ?_
  refine g_iload_n (pc := 3) X 1 rfl dX9_wordKind_3 ?_
  refine g_iload_n (pc := 4) X 2 rfl dX9_wordKind_4 ?_
  refine g_callV (pc := 5) X (k_X9_spells l Z t0 t_bytes t_kinds t_places t_values 0 Tb fr to ts tk b_fr b_to b_ts b_tk (by decide) (h_Tb)) iM_X9_spells mw_12_22 mw_12_23 mw_13_0 0 rfl rfl [0, 1] [] rfl (wr := []) rfl (by decide) rfl rfl (Nat.le_of_ble_eq_true rfl) (by decide) dX9_wordKind_5 (fun r w' hpo => ?_)
  refine exN_1 hpo fun y1 hz => anD_3 hz fun e_r e_w hf5_b_y => ?_; clear hz hpo; subst e_r; subst e_w
  refine g_as (pc' := 8) (lv' := [(0, .ref t0), (1, .int (iI fr)), (2, .int (iI to))]) (st' := [.int (iI y1)]) (ws' := [cO_riirrr t0 9 t_bytes ts tk t_kinds t_places t_values, cA Z t_bytes 0 400 Tb]) rfl rfl rfl rfl ?_
  refine g_if_eqI (pc := 8) X 13 (by decide) (inRb hf5_b_y (by decide) (by decide)) dX9_wordKind_8 (fun c8 => ?_) (fun c8 => ?_)
  · refine g_aload_n (pc := 13) X 0 rfl dX9_wordKind_13 ?_
    refine g_ldcS (pc := 14) X (tx := "door") (j := 1) (by decide) dX9_wordKind_14 ?_
    refine g_iload_n (pc := 16) X 1 rfl dX9_wordKind_16 ?_
    refine g_iload_n (pc := 17) X 2 rfl dX9_wordKind_17 ?_
    refine g_callV (pc := 18) X (k_X9_spells l Z t0 t_bytes t_kinds t_places t_values 1 Tb fr to ts tk b_fr b_to b_ts b_tk (by decide) (h_Tb)) iM_X9_spells mw_12_22 mw_12_23 mw_13_0 0 rfl rfl [0, 1] [] rfl (wr := []) rfl (by decide) rfl rfl (Nat.le_of_ble_eq_true rfl) (by decide) dX9_wordKind_18 (fun r w' hpo => ?_)
    refine exN_1 hpo fun y3 hz => anD_3 hz fun e_r e_w hf18_b_y => ?_; clear hz hpo; subst e_r; subst e_w
    refine g_as (pc' := 21) (lv' := [(0, .ref t0), (1, .int (iI fr)), (2, .int (iI to))]) (st' := [.int (iI y3)]) (ws' := [cO_riirrr t0 9 t_bytes ts tk t_kinds t_places t_values, cA Z t_bytes 0 400 Tb]) rfl rfl rfl rfl ?_
    refine g_if_eqI (pc := 21) X 26 (by decide) (inRb hf18_b_y (by decide) (by decide)) dX9_wordKind_21 (fun c21 => ?_) (fun c21 => ?_)
    · refine g_aload_n (pc := 26) X 0 rfl dX9_wordKind_26 ?_
      refine g_ldcS (pc := 27) X (tx := "window") (j := 2) (by decide) dX9_wordKind_27 ?_
      refine g_iload_n (pc := 29) X 1 rfl dX9_wordKind_29 ?_
      refine g_iload_n (pc := 30) X 2 rfl dX9_wordKind_30 ?_
      refine g_callV (pc := 31) X (k_X9_spells l Z t0 t_bytes t_kinds t_places t_values 2 Tb fr to ts tk b_fr b_to b_ts b_tk (by decide) (h_Tb)) iM_X9_spells mw_12_22 mw_12_23 mw_13_0 0 rfl rfl [0, 1] [] rfl (wr := []) rfl (by decide) rfl rfl (Nat.le_of_ble_eq_true rfl) (by decide) dX9_wordKind_31 (fun r w' hpo => ?_)
      refine exN_1 hpo fun y5 hz => anD_3 hz fun e_r e_w hf31_b_y => ?_; clear hz hpo; subst e_r; subst e_w
      refine g_as (pc' := 34) (lv' := [(0, .ref t0), (1, .int (iI fr)), (2, .int (iI to))]) (st' := [.int (iI y5)]) (ws' := [cO_riirrr t0 9 t_bytes ts tk t_kinds t_places t_values, cA Z t_bytes 0 400 Tb]) rfl rfl rfl rfl ?_
      refine g_if_eqI (pc := 34) X 39 (by decide) (inRb hf31_b_y (by decide) (by decide)) dX9_wordKind_34 (fun c34 => ?_) (fun c34 => ?_)
      · refine g_aload_n (pc := 39) X 0 rfl dX9_wordKind_39 ?_
        refine g_ldcS (pc := 40) X (tx := "lean") (j := 3) (by decide) dX9_wordKind_40 ?_
        refine g_iload_n (pc := 42) X 1 rfl dX9_wordKind_42 ?_
        refine g_iload_n (pc := 43) X 2 rfl dX9_wordKind_43 ?_
        refine g_callV (pc := 44) X (k_X9_spells l Z t0 t_bytes t_kinds t_places t_values 3 Tb fr to ts tk b_fr b_to b_ts b_tk (by decide) (h_Tb)) iM_X9_spells mw_12_22 mw_12_23 mw_13_0 0 rfl rfl [0, 1] [] rfl (wr := []) rfl (by decide) rfl rfl (Nat.le_of_ble_eq_true rfl) (by decide) dX9_wordKind_44 (fun r w' hpo => ?_)
        refine exN_1 hpo fun y7 hz => anD_3 hz fun e_r e_w hf44_b_y => ?_; clear hz hpo; subst e_r; subst e_w
        refine g_as (pc' := 47) (lv' := [(0, .ref t0), (1, .int (iI fr)), (2, .int (iI to))]) (st' := [.int (iI y7)]) (ws' := [cO_riirrr t0 9 t_bytes ts tk t_kinds t_places t_values, cA Z t_bytes 0 400 Tb]) rfl rfl rfl rfl ?_
        refine g_if_eqI (pc := 47) X 52 (by decide) (inRb hf44_b_y (by decide) (by decide)) dX9_wordKind_47 (fun c47 => ?_) (fun c47 => ?_)
        · refine g_aload_n (pc := 52) X 0 rfl dX9_wordKind_52 ?_
          refine g_ldcS (pc := 53) X (tx := "stand") (j := 4) (by decide) dX9_wordKind_53 ?_
          refine g_iload_n (pc := 55) X 1 rfl dX9_wordKind_55 ?_
          refine g_iload_n (pc := 56) X 2 rfl dX9_wordKind_56 ?_
          refine g_callV (pc := 57) X (k_X9_spells l Z t0 t_bytes t_kinds t_places t_values 4 Tb fr to ts tk b_fr b_to b_ts b_tk (by decide) (h_Tb)) iM_X9_spells mw_12_22 mw_12_23 mw_13_0 0 rfl rfl [0, 1] [] rfl (wr := []) rfl (by decide) rfl rfl (Nat.le_of_ble_eq_true rfl) (by decide) dX9_wordKind_57 (fun r w' hpo => ?_)
          refine exN_1 hpo fun y9 hz => anD_3 hz fun e_r e_w hf57_b_y => ?_; clear hz hpo; subst e_r; subst e_w
          refine g_as (pc' := 60) (lv' := [(0, .ref t0), (1, .int (iI fr)), (2, .int (iI to))]) (st' := [.int (iI y9)]) (ws' := [cO_riirrr t0 9 t_bytes ts tk t_kinds t_places t_values, cA Z t_bytes 0 400 Tb]) rfl rfl rfl rfl ?_
          refine g_if_eqI (pc := 60) X 67 (by decide) (inRb hf57_b_y (by decide) (by decide)) dX9_wordKind_60 (fun c60 => ?_) (fun c60 => ?_)
          · refine g_iconst (pc := 67) X (iI 5) (by rfl) dX9_wordKind_67 ?_
            exact g_iret (pc := 68) X hA (⟨5, rfl, rfl, (by (first | (clear b_fr b_to b_ts b_tk; omega) | omega))⟩) (by decide) (by decide) dX9_wordKind_68
          · refine g_iconst (pc := 63) X (iI 4) (by rfl) dX9_wordKind_63 ?_
            refine g_goto (pc := 64) X 68 (by decide) dX9_wordKind_64 ?_
            exact g_iret (pc := 68) X hA (⟨4, rfl, rfl, (by (first | (clear b_fr b_to b_ts b_tk; omega) | omega))⟩) (by decide) (by decide) dX9_wordKind_68
        · refine g_iconst (pc := 50) X (iI 3) (by rfl) dX9_wordKind_50 ?_
          exact g_iret (pc := 51) X hA (⟨3, rfl, rfl, (by (first | (clear b_fr b_to b_ts b_tk; omega) | omega))⟩) (by decide) (by decide) dX9_wordKind_51
      · refine g_iconst (pc := 37) X (iI 2) (by rfl) dX9_wordKind_37 ?_
        exact g_iret (pc := 38) X hA (⟨2, rfl, rfl, (by (first | (clear b_fr b_to b_ts b_tk; omega) | omega))⟩) (by decide) (by decide) dX9_wordKind_38
    · refine g_iconst (pc := 24) X (iI 1) (by rfl) dX9_wordKind_24 ?_
      exact g_iret (pc := 25) X hA (⟨1, rfl, rfl, (by (first | (clear b_fr b_to b_ts b_tk; omega) | omega))⟩) (by decide) (by decide) dX9_wordKind_25
  · refine g_iconst (pc := 11) X (iI 0) (by rfl) dX9_wordKind_11 ?_
    exact g_iret (pc := 12) X hA (⟨0, rfl, rfl, (by (first | (clear b_fr b_to b_ts b_tk; omega) | omega))⟩) (by decide) (by decide) dX9_wordKind_12

set_option maxHeartbeats 4000000 in
set_option maxRecDepth 100000 in
theorem k_X9_split (l : Launch) (Z : gZ) (t0 : Nat) (t_bytes : Nat) (t_kinds : Nat) (t_places : Nat) (t_values : Nat) (Tb : Nat → Int) (Tk : Nat → Int) (Tp : Nat → Int) (Tv : Nat → Int) (ts : Int) (tk : Int) (b_ts : 0 ≤ ts ∧ ts ≤ 400) (b_tk : 0 ≤ tk ∧ tk ≤ 401) (h_Tb : ∀ j, j < 400 → 0 ≤ Tb j ∧ Tb j ≤ 255) (h_Tk : ∀ j, j < 401 → 0 ≤ Tk j ∧ Tk j ≤ 10) (h_Tp : ∀ j, j < 401 → 0 ≤ Tp j ∧ Tp j ≤ 400) (h_Tv : ∀ j, j < 401 → 0 ≤ Tv j ∧ Tv j ≤ 100000) : Con l Z yX9_split cX9_split 3 none 6 131 0 0 [.ref t0] [cO_riirrr t0 9 t_bytes ts tk t_kinds t_places t_values, cA Z t_bytes 0 400 Tb, cA Z t_kinds 0 401 Tk, cA Z t_places 0 401 Tp, cA Z t_values 0 401 Tv] (fun r w' => ∃ (Tk2 : Nat → Int) (Tp2 : Nat → Int) (Tv2 : Nat → Int) (tk2 : Int), (r = none) ∧ (w' = [cO_riirrr t0 9 t_bytes ts tk2 t_kinds t_places t_values, cA Z t_bytes 0 400 Tb, cA Z t_kinds 0 401 Tk2, cA Z t_places 0 401 Tp2, cA Z t_values 0 401 Tv2]) ∧ (1 ≤ tk2 ∧ tk2 ≤ 401) ∧ (∀ j, j < 401 → 0 ≤ Tk2 j ∧ Tk2 j ≤ 10) ∧ (∀ j, j < 401 → 0 ≤ Tp2 j ∧ Tp2 j ≤ 400) ∧ (∀ j, j < 401 → 0 ≤ Tv2 j ∧ Tv2 j ≤ 100000)) := by
  refine enter (by decide) (Nat.le_of_ble_eq_true rfl) ?_
  intro p e s m args below meth c A X hnm hA
  have X : Cx p s m args meth c cX9_split 3 none RX9 Z A := X
  refine g_as (pc' := 0) (lv' := [(0, .ref t0)]) (st' := []) (ws' := [cO_riirrr t0 9 t_bytes ts tk t_kinds t_places t_values, cA Z t_bytes 0 400 Tb, cA Z t_kinds 0 401 Tk, cA Z t_places 0 401 Tp, cA Z t_values 0 401 Tv]) rfl rfl rfl rfl ?_
  refine g_aload_n (pc := 0) X 0 rfl dX9_split_0 ?_
  refine g_iconst (pc := 1) X (iI 0) (by rfl) dX9_split_1 ?_
  refine g_put (pc := 2) X inlX9 tyX9_ok nmX9 0 rfl rfl 2 (by decide) mw_12_9 rfl rfl rfl (Nat.le_of_ble_eq_true rfl) (ws' := [cO_riirrr t0 9 t_bytes ts 0 t_kinds t_places t_values, cA Z t_bytes 0 400 Tb, cA Z t_kinds 0 401 Tk, cA Z t_places 0 401 Tp, cA Z t_values 0 401 Tv]) rfl dX9_split_2 ?_
  refine g_iconst (pc := 5) X (iI 0) (by rfl) dX9_split_5 ?_
  refine g_istore_n (pc := 6) X (i := 1) rfl (by decide) (lv' := [(1, .int (iI 0)), (0, .ref t0)]) rfl dX9_split_6 ?_
  have loop7 : ∀ (fuel : Nat) (pl : Int) (tq : Int) (Kk : Nat → Int) (Kp : Nat → Int) (Kv : Nat → Int), (0 ≤ pl ∧ pl ≤ 400) → (0 ≤ tq ∧ tq ≤ 400) → (∀ j, j < 401 → 0 ≤ Kk j ∧ Kk j ≤ 10) → (∀ j, j < 401 → 0 ≤ Kp j ∧ Kp j ≤ 400) → (∀ j, j < 401 → 0 ≤ Kv j ∧ Kv j ≤ 100000) → (tq ≤ pl) → (401 - pl).toNat < fuel → Gs p l e ({ frames := 6, cells := 0, slots := 0, locals := 131 } : Room) s m args below meth c (MQ below (gPost Z [cO_riirrr t0 9 t_bytes ts tk t_kinds t_places t_values, cA Z t_bytes 0 400 Tb, cA Z t_kinds 0 401 Tk, cA Z t_places 0 401 Tp, cA Z t_values 0 401 Tv] s.heap.size (fun r w' => ∃ (Tk2 : Nat → Int) (Tp2 : Nat → Int) (Tv2 : Nat → Int) (tk2 : Int), (r = none) ∧ (w' = [cO_riirrr t0 9 t_bytes ts tk2 t_kinds t_places t_values, cA Z t_bytes 0 400 Tb, cA Z t_kinds 0 401 Tk2, cA Z t_places 0 401 Tp2, cA Z t_values 0 401 Tv2]) ∧ (1 ≤ tk2 ∧ tk2 ≤ 401) ∧ (∀ j, j < 401 → 0 ≤ Tk2 j ∧ Tk2 j ≤ 10) ∧ (∀ j, j < 401 → 0 ≤ Tp2 j ∧ Tp2 j ≤ 400) ∧ (∀ j, j < 401 → 0 ≤ Tv2 j ∧ Tv2 j ≤ 100000))) args s 0 0 (va_A [cO_riirrr t0 9 t_bytes ts tk t_kinds t_places t_values, cA Z t_bytes 0 400 Tb, cA Z t_kinds 0 401 Tk, cA Z t_places 0 401 Tp, cA Z t_values 0 401 Tv] s.heap.size)) Z A 3 0 0 7 [(1, .int (iI pl)), (0, .ref t0)] [] [cO_riirrr t0 9 t_bytes ts tq t_kinds t_places t_values, cA Z t_bytes 0 400 Tb, cA Z t_kinds 0 401 Kk, cA Z t_places 0 401 Kp, cA Z t_values 0 401 Kv] := by
    intro fuel
    induction fuel with
    | zero => intro pl tq Kk Kp Kv _ _ _ _ _ _ hm; exact absurd hm (Nat.not_lt_zero _)
    | succ fuel ih =>
      intro pl tq Kk Kp Kv b_pl b_tq h_Kk h_Kp h_Kv iv hm
      refine g_iload_n (pc := 7) X 0 rfl dX9_split_7 ?_
      refine g_aload_n (pc := 8) X 1 rfl dX9_split_8 ?_
      refine g_get (pc := 9) X inlX9 0 rfl rfl 1 (by decide) mw_10_8 rfl dX9_split_9 ?_
      refine g_icmp_geI (pc := 12) X 150 (by decide) (inRb b_pl (by decide) (by decide)) (inRb b_ts (by decide) (by decide)) dX9_split_12 (fun c12 => ?_) (fun c12 => ?_)
      · refine g_aload_n (pc := 150) X 1 rfl dX9_split_150 ?_
        refine g_bipush (pc := 151) X (iI 10) (by decide) dX9_split_151 ?_
        refine g_aload_n (pc := 153) X 1 rfl dX9_split_153 ?_
        refine g_get (pc := 154) X inlX9 0 rfl rfl 1 (by decide) mw_10_8 rfl dX9_split_154 ?_
        refine g_iconst (pc := 157) X (iI 0) (by rfl) dX9_split_157 ?_
        refine g_callV (pc := 158) X (k_X9_addToken l Z t0 t_bytes t_kinds t_places t_values Kk Kp Kv 10 ts 0 ts tq (by decide) b_ts (by decide) b_ts (by omega) (h_Kk) (h_Kp) (h_Kv)) iM_X9_addToken mw_15_3 mw_15_4 mw_15_5 0 rfl rfl [0, 2, 3, 4] [1] rfl (wr := [cA Z t_bytes 0 400 Tb]) rfl (by decide) rfl rfl (Nat.le_of_ble_eq_true rfl) (by decide) dX9_split_158 (fun r w' hpo => ?_)
        refine exN_4 hpo fun F1 F2 F3 y4 hz => anD_8 hz fun e_r e_w hf158_b_tk2 hf158_h_Tk2 hf158_h_Tp2 hf158_h_Tv2 hf158_f1 hf158_f2 => ?_; clear hz hpo; subst e_r; subst e_w
        refine g_as (pc' := 161) (lv' := [(1, .int (iI pl)), (0, .ref t0)]) (st' := []) (ws' := [cA Z t_bytes 0 400 Tb, cO_riirrr t0 9 t_bytes ts y4 t_kinds t_places t_values, cA Z t_kinds 0 401 F1, cA Z t_places 0 401 F2, cA Z t_values 0 401 F3]) rfl rfl rfl rfl ?_
        refine g_ws (ws' := [cO_riirrr t0 9 t_bytes ts y4 t_kinds t_places t_values, cA Z t_bytes 0 400 Tb, cA Z t_kinds 0 401 F1, cA Z t_places 0 401 F2, cA Z t_values 0 401 F3]) [1, 0, 2, 3, 4] (by decide) rfl ?_
        exact g_vret (pc := 161) X hA (⟨F1, F2, F3, y4, rfl, rfl, (by omega), (hf158_h_Tk2), (hf158_h_Tp2), (hf158_h_Tv2)⟩) (by decide) (by decide) dX9_split_161
      · refine g_iload_n (pc := 15) X 0 rfl dX9_split_15 ?_
        refine g_iconst (pc := 16) X (iI 1) (by rfl) dX9_split_16 ?_
        refine g_iaddI (pc := 17) X dX9_split_17 ?_
        refine g_istore_n (pc := 18) X (i := 2) rfl (by decide) (lv' := [(2, .int (iI (pl + 1))), (1, .int (iI pl)), (0, .ref t0)]) rfl dX9_split_18 ?_
        refine g_bipush (pc := 19) X (iI 97) (by decide) dX9_split_19 ?_
        refine g_aload_n (pc := 21) X 2 rfl dX9_split_21 ?_
        refine g_get (pc := 22) X inlX9 0 rfl rfl 0 (by decide) mw_3_12 rfl dX9_split_22 ?_
        refine g_iload_n (pc := 25) X 1 rfl dX9_split_25 ?_
        refine g_ialdI (pc := 26) X 1 rfl (b_pl.1) (by omega) (Int.le_trans b_pl.2 (by decide)) dX9_split_26 ?_
        refine g_nameI (fun y6 ey6 => ?_)
        have by6 : 0 ≤ y6 ∧ y6 ≤ 255 := by rw [ey6]; exact h_Tb _ (by omega)
        refine g_bipush (pc := 27) X (iI 122) (by decide) dX9_split_27 ?_
        refine g_callSN (pc := 29) X (k_X11_isFrom l Z 97 y6 122 (by decide) (by omega) (by decide)) iM_X11_isFrom (by decide) mw_11_7 [] [0, 1, 2, 3, 4] rfl (wr := [cO_riirrr t0 9 t_bytes ts tq t_kinds t_places t_values, cA Z t_bytes 0 400 Tb, cA Z t_kinds 0 401 Kk, cA Z t_places 0 401 Kp, cA Z t_values 0 401 Kv]) rfl (by decide) rfl rfl (Nat.le_of_ble_eq_true rfl) (by decide) dX9_split_29 (fun r w' hpo => ?_)
        obtain ⟨rfl, rfl⟩ := hpo
        refine g_as (pc' := 32) (lv' := [(2, .int (iI (pl + 1))), (1, .int (iI pl)), (0, .ref t0)]) (st' := [.int (iI (bI (97 ≤ y6 ∧ y6 ≤ 122)))]) (ws' := [cO_riirrr t0 9 t_bytes ts tq t_kinds t_places t_values, cA Z t_bytes 0 400 Tb, cA Z t_kinds 0 401 Kk, cA Z t_places 0 401 Kp, cA Z t_values 0 401 Kv]) rfl rfl rfl rfl ?_
        refine g_if_eqB (pc := 32) X 60 (by decide) dX9_split_32 (fun c32 => ?_) (fun c32 => ?_)
        · refine g_bipush (pc := 60) X (iI 48) (by decide) dX9_split_60 ?_
          refine g_aload_n (pc := 62) X 2 rfl dX9_split_62 ?_
          refine g_get (pc := 63) X inlX9 0 rfl rfl 0 (by decide) mw_3_12 rfl dX9_split_63 ?_
          refine g_iload_n (pc := 66) X 1 rfl dX9_split_66 ?_
          refine g_ialdI (pc := 67) X 1 rfl (b_pl.1) (by omega) (Int.le_trans b_pl.2 (by decide)) dX9_split_67 ?_
          refine g_nameI (fun y8 ey8 => ?_)
          have by8 : 0 ≤ y8 ∧ y8 ≤ 255 := by rw [ey8]; exact h_Tb _ (by omega)
          refine g_bipush (pc := 68) X (iI 57) (by decide) dX9_split_68 ?_
          refine g_callSN (pc := 70) X (k_X11_isFrom l Z 48 y8 57 (by decide) (by omega) (by decide)) iM_X11_isFrom (by decide) mw_11_7 [] [0, 1, 2, 3, 4] rfl (wr := [cO_riirrr t0 9 t_bytes ts tq t_kinds t_places t_values, cA Z t_bytes 0 400 Tb, cA Z t_kinds 0 401 Kk, cA Z t_places 0 401 Kp, cA Z t_values 0 401 Kv]) rfl (by decide) rfl rfl (Nat.le_of_ble_eq_true rfl) (by decide) dX9_split_70 (fun r w' hpo => ?_)
          obtain ⟨rfl, rfl⟩ := hpo
          refine g_as (pc' := 73) (lv' := [(2, .int (iI (pl + 1))), (1, .int (iI pl)), (0, .ref t0)]) (st' := [.int (iI (bI (48 ≤ y8 ∧ y8 ≤ 57)))]) (ws' := [cO_riirrr t0 9 t_bytes ts tq t_kinds t_places t_values, cA Z t_bytes 0 400 Tb, cA Z t_kinds 0 401 Kk, cA Z t_places 0 401 Kp, cA Z t_values 0 401 Kv]) rfl rfl rfl rfl ?_
          refine g_if_eqB (pc := 73) X 102 (by decide) dX9_split_73 (fun c73 => ?_) (fun c73 => ?_)
          · refine g_aload_n (pc := 102) X 2 rfl dX9_split_102 ?_
            refine g_get (pc := 103) X inlX9 0 rfl rfl 0 (by decide) mw_3_12 rfl dX9_split_103 ?_
            refine g_iload_n (pc := 106) X 1 rfl dX9_split_106 ?_
            refine g_ialdI (pc := 107) X 1 rfl (b_pl.1) (by omega) (Int.le_trans b_pl.2 (by decide)) dX9_split_107 ?_
            refine g_nameI (fun y10 ey10 => ?_)
            have by10 : 0 ≤ y10 ∧ y10 ≤ 255 := by rw [ey10]; exact h_Tb _ (by omega)
            refine g_bipush (pc := 108) X (iI 32) (by decide) dX9_split_108 ?_
            refine g_icmp_eqI (pc := 110) X 139 (by decide) (inRb by10 (by decide) (by decide)) ⟨by decide, by decide⟩ dX9_split_110 (fun c110 => ?_) (fun c110 => ?_)
            · refine g_iload_n (pc := 139) X 1 rfl dX9_split_139 ?_
              refine g_iconst (pc := 140) X (iI 1) (by rfl) dX9_split_140 ?_
              refine g_iaddI (pc := 141) X dX9_split_141 ?_
              refine g_iload_n (pc := 142) X 0 rfl dX9_split_142 ?_
              refine g_maxI (pc := 143) X mw_12_10 mw_12_11 mw_25_23 mw_12_13 (by decide) (Nat.le_of_ble_eq_true rfl) (by decide) (by decide) ⟨by omega, by omega⟩ ⟨by omega, by omega⟩ dX9_split_143 ?_
              refine g_nameI (fun y11 ey11 => ?_)
              have my11 : pl + 1 ≤ y11 ∧ pl + 1 ≤ y11 ∧ (y11 = pl + 1 ∨ y11 = pl + 1) := by rw [ey11]; exact maxF _ _
              clear ey11
              refine g_istore_n (pc := 146) X (i := 1) rfl (by decide) (lv' := [(1, .int (iI y11)), (2, .int (iI (pl + 1))), (0, .ref t0)]) rfl dX9_split_146 ?_
              refine g_goto (pc := 147) X 7 (by decide) dX9_split_147 ?_
              refine g_lv (lv' := [(1, .int (iI y11)), (0, .ref t0)]) [0, 2] rfl ?_
              exact ih y11 tq Kk Kp Kv (by omega) (b_tq) (h_Kk) (h_Kp) (h_Kv) (by omega) (by omega)
            · refine g_aload_n (pc := 113) X 2 rfl dX9_split_113 ?_
              refine g_get (pc := 114) X inlX9 0 rfl rfl 0 (by decide) mw_3_12 rfl dX9_split_114 ?_
              refine g_iload_n (pc := 117) X 1 rfl dX9_split_117 ?_
              refine g_ialdI (pc := 118) X 1 rfl (b_pl.1) (by omega) (Int.le_trans b_pl.2 (by decide)) dX9_split_118 ?_
              refine g_nameI (fun y12 ey12 => ?_)
              have by12 : 0 ≤ y12 ∧ y12 ≤ 255 := by rw [ey12]; exact h_Tb _ (by omega)
              refine g_bipush (pc := 119) X (iI 10) (by decide) dX9_split_119 ?_
              refine g_icmp_eqI (pc := 121) X 139 (by decide) (inRb by12 (by decide) (by decide)) ⟨by decide, by decide⟩ dX9_split_121 (fun c121 => ?_) (fun c121 => ?_)
              · refine g_iload_n (pc := 139) X 1 rfl dX9_split_139 ?_
                refine g_iconst (pc := 140) X (iI 1) (by rfl) dX9_split_140 ?_
                refine g_iaddI (pc := 141) X dX9_split_141 ?_
                refine g_iload_n (pc := 142) X 0 rfl dX9_split_142 ?_
                refine g_maxI (pc := 143) X mw_12_10 mw_12_11 mw_25_23 mw_12_13 (by decide) (Nat.le_of_ble_eq_true rfl) (by decide) (by decide) ⟨by omega, by omega⟩ ⟨by omega, by omega⟩ dX9_split_143 ?_
                refine g_nameI (fun y13 ey13 => ?_)
                have my13 : pl + 1 ≤ y13 ∧ pl + 1 ≤ y13 ∧ (y13 = pl + 1 ∨ y13 = pl + 1) := by rw [ey13]; exact maxF _ _
                clear ey13
                refine g_istore_n (pc := 146) X (i := 1) rfl (by decide) (lv' := [(1, .int (iI y13)), (2, .int (iI (pl + 1))), (0, .ref t0)]) rfl dX9_split_146 ?_
                refine g_goto (pc := 147) X 7 (by decide) dX9_split_147 ?_
                refine g_lv (lv' := [(1, .int (iI y13)), (0, .ref t0)]) [0, 2] rfl ?_
                exact ih y13 tq Kk Kp Kv (by omega) (b_tq) (h_Kk) (h_Kp) (h_Kv) (by omega) (by omega)
              · refine g_aload_n (pc := 124) X 2 rfl dX9_split_124 ?_
                refine g_aload_n (pc := 125) X 2 rfl dX9_split_125 ?_
                refine g_get (pc := 126) X inlX9 0 rfl rfl 0 (by decide) mw_3_12 rfl dX9_split_126 ?_
                refine g_iload_n (pc := 129) X 1 rfl dX9_split_129 ?_
                refine g_ialdI (pc := 130) X 1 rfl (b_pl.1) (by omega) (Int.le_trans b_pl.2 (by decide)) dX9_split_130 ?_
                refine g_nameI (fun y14 ey14 => ?_)
                have by14 : 0 ≤ y14 ∧ y14 ≤ 255 := by rw [ey14]; exact h_Tb _ (by omega)
                refine g_callS (pc := 131) X (k_X9_signKind l Z y14 (by omega)) iM_X9_signKind mw_15_15 mw_15_16 [] [0, 1, 2, 3, 4] rfl (wr := [cO_riirrr t0 9 t_bytes ts tq t_kinds t_places t_values, cA Z t_bytes 0 400 Tb, cA Z t_kinds 0 401 Kk, cA Z t_places 0 401 Kp, cA Z t_values 0 401 Kv]) rfl (by decide) rfl rfl (Nat.le_of_ble_eq_true rfl) (by decide) dX9_split_131 (fun r w' hpo => ?_)
                refine exN_1 hpo fun y15 hz => anD_3 hz fun e_r e_w hf131_b_y => ?_; clear hz hpo; subst e_r; subst e_w
                refine g_as (pc' := 134) (lv' := [(2, .int (iI (pl + 1))), (1, .int (iI pl)), (0, .ref t0)]) (st' := [.int (iI y15), .ref t0]) (ws' := [cO_riirrr t0 9 t_bytes ts tq t_kinds t_places t_values, cA Z t_bytes 0 400 Tb, cA Z t_kinds 0 401 Kk, cA Z t_places 0 401 Kp, cA Z t_values 0 401 Kv]) rfl rfl rfl rfl ?_
                refine g_iload_n (pc := 134) X 1 rfl dX9_split_134 ?_
                refine g_iconst (pc := 135) X (iI 0) (by rfl) dX9_split_135 ?_
                refine g_callV (pc := 136) X (k_X9_addToken l Z t0 t_bytes t_kinds t_places t_values Kk Kp Kv y15 pl 0 ts tq (by omega) b_pl (by decide) b_ts (by omega) (h_Kk) (h_Kp) (h_Kv)) iM_X9_addToken mw_15_3 mw_15_4 mw_15_5 0 rfl rfl [0, 2, 3, 4] [1] rfl (wr := [cA Z t_bytes 0 400 Tb]) rfl (by decide) rfl rfl (Nat.le_of_ble_eq_true rfl) (by decide) dX9_split_136 (fun r w' hpo => ?_)
                refine exN_4 hpo fun F17 F18 F19 y20 hz => anD_8 hz fun e_r e_w hf136_b_tk2 hf136_h_Tk2 hf136_h_Tp2 hf136_h_Tv2 hf136_f1 hf136_f2 => ?_; clear hz hpo; subst e_r; subst e_w
                refine g_as (pc' := 139) (lv' := [(2, .int (iI (pl + 1))), (1, .int (iI pl)), (0, .ref t0)]) (st' := []) (ws' := [cA Z t_bytes 0 400 Tb, cO_riirrr t0 9 t_bytes ts y20 t_kinds t_places t_values, cA Z t_kinds 0 401 F17, cA Z t_places 0 401 F18, cA Z t_values 0 401 F19]) rfl rfl rfl rfl ?_
                refine g_iload_n (pc := 139) X 1 rfl dX9_split_139 ?_
                refine g_iconst (pc := 140) X (iI 1) (by rfl) dX9_split_140 ?_
                refine g_iaddI (pc := 141) X dX9_split_141 ?_
                refine g_iload_n (pc := 142) X 0 rfl dX9_split_142 ?_
                refine g_maxI (pc := 143) X mw_12_10 mw_12_11 mw_25_23 mw_12_13 (by decide) (Nat.le_of_ble_eq_true rfl) (by decide) (by decide) ⟨by omega, by omega⟩ ⟨by omega, by omega⟩ dX9_split_143 ?_
                refine g_nameI (fun y22 ey22 => ?_)
                have my22 : pl + 1 ≤ y22 ∧ pl + 1 ≤ y22 ∧ (y22 = pl + 1 ∨ y22 = pl + 1) := by rw [ey22]; exact maxF _ _
                clear ey22
                refine g_istore_n (pc := 146) X (i := 1) rfl (by decide) (lv' := [(1, .int (iI y22)), (2, .int (iI (pl + 1))), (0, .ref t0)]) rfl dX9_split_146 ?_
                refine g_goto (pc := 147) X 7 (by decide) dX9_split_147 ?_
                refine g_lv (lv' := [(1, .int (iI y22)), (0, .ref t0)]) [0, 2] rfl ?_
                refine g_ws (ws' := [cO_riirrr t0 9 t_bytes ts y20 t_kinds t_places t_values, cA Z t_bytes 0 400 Tb, cA Z t_kinds 0 401 F17, cA Z t_places 0 401 F18, cA Z t_values 0 401 F19]) [1, 0, 2, 3, 4] (by decide) rfl ?_
                exact ih y22 y20 F17 F18 F19 (by omega) (by omega) (hf136_h_Tk2) (hf136_h_Tp2) (hf136_h_Tv2) (by omega) (by omega)
          · refine g_aload_n (pc := 76) X 2 rfl dX9_split_76 ?_
            refine g_iload_n (pc := 77) X 1 rfl dX9_split_77 ?_
            refine g_bipush (pc := 78) X (iI 48) (by decide) dX9_split_78 ?_
            refine g_bipush (pc := 80) X (iI 57) (by decide) dX9_split_80 ?_
            refine g_callV (pc := 82) X (k_X9_endOf l Z t0 t_bytes t_kinds t_places t_values Tb pl 48 57 ts tq b_pl (by decide) (by decide) b_ts (by omega) (h_Tb)) iM_X9_endOf mw_12_14 mw_12_15 mw_12_16 0 rfl rfl [0, 1] [2, 3, 4] rfl (wr := [cA Z t_kinds 0 401 Kk, cA Z t_places 0 401 Kp, cA Z t_values 0 401 Kv]) rfl (by decide) rfl rfl (Nat.le_of_ble_eq_true rfl) (by decide) dX9_split_82 (fun r w' hpo => ?_)
            refine exN_1 hpo fun y23 hz => anD_6 hz fun e_r e_w hf82_b_y hf82_f1 hf82_f2 hf82_f3 => ?_; clear hz hpo; subst e_r; subst e_w
            refine g_as (pc' := 85) (lv' := [(2, .int (iI (pl + 1))), (1, .int (iI pl)), (0, .ref t0)]) (st' := [.int (iI y23)]) (ws' := [cA Z t_kinds 0 401 Kk, cA Z t_places 0 401 Kp, cA Z t_values 0 401 Kv, cO_riirrr t0 9 t_bytes ts tq t_kinds t_places t_values, cA Z t_bytes 0 400 Tb]) rfl rfl rfl rfl ?_
            refine g_istore_n (pc := 85) X (i := 2) rfl (by decide) (lv' := [(2, .int (iI y23)), (1, .int (iI pl)), (0, .ref t0)]) rfl dX9_split_85 ?_
            refine g_aload_n (pc := 86) X 2 rfl dX9_split_86 ?_
            refine g_bipush (pc := 87) X (iI 6) (by decide) dX9_split_87 ?_
            refine g_iload_n (pc := 89) X 1 rfl dX9_split_89 ?_
            refine g_aload_n (pc := 90) X 2 rfl dX9_split_90 ?_
            refine g_iload_n (pc := 91) X 1 rfl dX9_split_91 ?_
            refine g_iload_n (pc := 92) X 0 rfl dX9_split_92 ?_
            refine g_callV (pc := 93) X (k_X9_numberFrom l Z t0 t_bytes t_kinds t_places t_values Tb pl y23 ts tq b_pl hf82_b_y b_ts (by omega) (fun j h1 h2 => hf82_f3 j h1 h2) (h_Tb)) iM_X9_numberFrom mw_15_7 mw_15_8 mw_15_9 3 rfl rfl [3, 4] [0, 1, 2] rfl (wr := [cA Z t_kinds 0 401 Kk, cA Z t_places 0 401 Kp, cA Z t_values 0 401 Kv]) rfl (by decide) rfl rfl (Nat.le_of_ble_eq_true rfl) (by decide) dX9_split_93 (fun r w' hpo => ?_)
            refine exN_1 hpo fun y25 hz => anD_3 hz fun e_r e_w hf93_b_y => ?_; clear hz hpo; subst e_r; subst e_w
            refine g_as (pc' := 96) (lv' := [(2, .int (iI y23)), (1, .int (iI pl)), (0, .ref t0)]) (st' := [.int (iI y25), .int (iI pl), .int (iI 6), .ref t0]) (ws' := [cA Z t_kinds 0 401 Kk, cA Z t_places 0 401 Kp, cA Z t_values 0 401 Kv, cO_riirrr t0 9 t_bytes ts tq t_kinds t_places t_values, cA Z t_bytes 0 400 Tb]) rfl rfl rfl rfl ?_
            refine g_callV (pc := 96) X (k_X9_addToken l Z t0 t_bytes t_kinds t_places t_values Kk Kp Kv 6 pl y25 ts tq (by decide) b_pl hf93_b_y b_ts (by omega) (h_Kk) (h_Kp) (h_Kv)) iM_X9_addToken mw_15_3 mw_15_4 mw_15_5 3 rfl rfl [3, 0, 1, 2] [4] rfl (wr := [cA Z t_bytes 0 400 Tb]) rfl (by decide) rfl rfl (Nat.le_of_ble_eq_true rfl) (by decide) dX9_split_96 (fun r w' hpo => ?_)
            refine exN_4 hpo fun F27 F28 F29 y30 hz => anD_8 hz fun e_r e_w hf96_b_tk2 hf96_h_Tk2 hf96_h_Tp2 hf96_h_Tv2 hf96_f1 hf96_f2 => ?_; clear hz hpo; subst e_r; subst e_w
            refine g_as (pc' := 99) (lv' := [(2, .int (iI y23)), (1, .int (iI pl)), (0, .ref t0)]) (st' := []) (ws' := [cA Z t_bytes 0 400 Tb, cO_riirrr t0 9 t_bytes ts y30 t_kinds t_places t_values, cA Z t_kinds 0 401 F27, cA Z t_places 0 401 F28, cA Z t_values 0 401 F29]) rfl rfl rfl rfl ?_
            refine g_goto (pc := 99) X 139 (by decide) dX9_split_99 ?_
            refine g_iload_n (pc := 139) X 1 rfl dX9_split_139 ?_
            refine g_iconst (pc := 140) X (iI 1) (by rfl) dX9_split_140 ?_
            refine g_iaddI (pc := 141) X dX9_split_141 ?_
            refine g_iload_n (pc := 142) X 0 rfl dX9_split_142 ?_
            refine g_maxI (pc := 143) X mw_12_10 mw_12_11 mw_25_23 mw_12_13 (by decide) (Nat.le_of_ble_eq_true rfl) (by decide) (by decide) ⟨by omega, by omega⟩ (inRb hf82_b_y (by decide) (by decide)) dX9_split_143 ?_
            refine g_nameI (fun y32 ey32 => ?_)
            have my32 : pl + 1 ≤ y32 ∧ y23 ≤ y32 ∧ (y32 = pl + 1 ∨ y32 = y23) := by rw [ey32]; exact maxF _ _
            clear ey32
            refine g_istore_n (pc := 146) X (i := 1) rfl (by decide) (lv' := [(1, .int (iI y32)), (2, .int (iI y23)), (0, .ref t0)]) rfl dX9_split_146 ?_
            refine g_goto (pc := 147) X 7 (by decide) dX9_split_147 ?_
            refine g_lv (lv' := [(1, .int (iI y32)), (0, .ref t0)]) [0, 2] rfl ?_
            refine g_ws (ws' := [cO_riirrr t0 9 t_bytes ts y30 t_kinds t_places t_values, cA Z t_bytes 0 400 Tb, cA Z t_kinds 0 401 F27, cA Z t_places 0 401 F28, cA Z t_values 0 401 F29]) [1, 0, 2, 3, 4] (by decide) rfl ?_
            exact ih y32 y30 F27 F28 F29 (by omega) (by omega) (hf96_h_Tk2) (hf96_h_Tp2) (hf96_h_Tv2) (by omega) (by omega)
        · refine g_aload_n (pc := 35) X 2 rfl dX9_split_35 ?_
          refine g_iload_n (pc := 36) X 1 rfl dX9_split_36 ?_
          refine g_bipush (pc := 37) X (iI 97) (by decide) dX9_split_37 ?_
          refine g_bipush (pc := 39) X (iI 122) (by decide) dX9_split_39 ?_
          refine g_callV (pc := 41) X (k_X9_endOf l Z t0 t_bytes t_kinds t_places t_values Tb pl 97 122 ts tq b_pl (by decide) (by decide) b_ts (by omega) (h_Tb)) iM_X9_endOf mw_12_14 mw_12_15 mw_12_16 0 rfl rfl [0, 1] [2, 3, 4] rfl (wr := [cA Z t_kinds 0 401 Kk, cA Z t_places 0 401 Kp, cA Z t_values 0 401 Kv]) rfl (by decide) rfl rfl (Nat.le_of_ble_eq_true rfl) (by decide) dX9_split_41 (fun r w' hpo => ?_)
          refine exN_1 hpo fun y33 hz => anD_6 hz fun e_r e_w hf41_b_y hf41_f1 hf41_f2 hf41_f3 => ?_; clear hz hpo; subst e_r; subst e_w
          refine g_as (pc' := 44) (lv' := [(2, .int (iI (pl + 1))), (1, .int (iI pl)), (0, .ref t0)]) (st' := [.int (iI y33)]) (ws' := [cA Z t_kinds 0 401 Kk, cA Z t_places 0 401 Kp, cA Z t_values 0 401 Kv, cO_riirrr t0 9 t_bytes ts tq t_kinds t_places t_values, cA Z t_bytes 0 400 Tb]) rfl rfl rfl rfl ?_
          refine g_istore_n (pc := 44) X (i := 2) rfl (by decide) (lv' := [(2, .int (iI y33)), (1, .int (iI pl)), (0, .ref t0)]) rfl dX9_split_44 ?_
          refine g_aload_n (pc := 45) X 2 rfl dX9_split_45 ?_
          refine g_aload_n (pc := 46) X 2 rfl dX9_split_46 ?_
          refine g_iload_n (pc := 47) X 1 rfl dX9_split_47 ?_
          refine g_iload_n (pc := 48) X 0 rfl dX9_split_48 ?_
          refine g_callV (pc := 49) X (k_X9_wordKind l Z t0 t_bytes t_kinds t_places t_values Tb pl y33 ts tq b_pl hf41_b_y b_ts (by omega) (h_Tb)) iM_X9_wordKind mw_12_18 mw_12_19 mw_12_20 3 rfl rfl [3, 4] [0, 1, 2] rfl (wr := [cA Z t_kinds 0 401 Kk, cA Z t_places 0 401 Kp, cA Z t_values 0 401 Kv]) rfl (by decide) rfl rfl (Nat.le_of_ble_eq_true rfl) (by decide) dX9_split_49 (fun r w' hpo => ?_)
          refine exN_1 hpo fun y35 hz => anD_3 hz fun e_r e_w hf49_b_y => ?_; clear hz hpo; subst e_r; subst e_w
          refine g_as (pc' := 52) (lv' := [(2, .int (iI y33)), (1, .int (iI pl)), (0, .ref t0)]) (st' := [.int (iI y35), .ref t0]) (ws' := [cA Z t_kinds 0 401 Kk, cA Z t_places 0 401 Kp, cA Z t_values 0 401 Kv, cO_riirrr t0 9 t_bytes ts tq t_kinds t_places t_values, cA Z t_bytes 0 400 Tb]) rfl rfl rfl rfl ?_
          refine g_iload_n (pc := 52) X 1 rfl dX9_split_52 ?_
          refine g_iconst (pc := 53) X (iI 0) (by rfl) dX9_split_53 ?_
          refine g_callV (pc := 54) X (k_X9_addToken l Z t0 t_bytes t_kinds t_places t_values Kk Kp Kv y35 pl 0 ts tq (by omega) b_pl (by decide) b_ts (by omega) (h_Kk) (h_Kp) (h_Kv)) iM_X9_addToken mw_15_3 mw_15_4 mw_15_5 3 rfl rfl [3, 0, 1, 2] [4] rfl (wr := [cA Z t_bytes 0 400 Tb]) rfl (by decide) rfl rfl (Nat.le_of_ble_eq_true rfl) (by decide) dX9_split_54 (fun r w' hpo => ?_)
          refine exN_4 hpo fun F37 F38 F39 y40 hz => anD_8 hz fun e_r e_w hf54_b_tk2 hf54_h_Tk2 hf54_h_Tp2 hf54_h_Tv2 hf54_f1 hf54_f2 => ?_; clear hz hpo; subst e_r; subst e_w
          refine g_as (pc' := 57) (lv' := [(2, .int (iI y33)), (1, .int (iI pl)), (0, .ref t0)]) (st' := []) (ws' := [cA Z t_bytes 0 400 Tb, cO_riirrr t0 9 t_bytes ts y40 t_kinds t_places t_values, cA Z t_kinds 0 401 F37, cA Z t_places 0 401 F38, cA Z t_values 0 401 F39]) rfl rfl rfl rfl ?_
          refine g_goto (pc := 57) X 139 (by decide) dX9_split_57 ?_
          refine g_iload_n (pc := 139) X 1 rfl dX9_split_139 ?_
          refine g_iconst (pc := 140) X (iI 1) (by rfl) dX9_split_140 ?_
          refine g_iaddI (pc := 141) X dX9_split_141 ?_
          refine g_iload_n (pc := 142) X 0 rfl dX9_split_142 ?_
          refine g_maxI (pc := 143) X mw_12_10 mw_12_11 mw_25_23 mw_12_13 (by decide) (Nat.le_of_ble_eq_true rfl) (by decide) (by decide) ⟨by omega, by omega⟩ (inRb hf41_b_y (by decide) (by decide)) dX9_split_143 ?_
          refine g_nameI (fun y42 ey42 => ?_)
          have my42 : pl + 1 ≤ y42 ∧ y33 ≤ y42 ∧ (y42 = pl + 1 ∨ y42 = y33) := by rw [ey42]; exact maxF _ _
          clear ey42
          refine g_istore_n (pc := 146) X (i := 1) rfl (by decide) (lv' := [(1, .int (iI y42)), (2, .int (iI y33)), (0, .ref t0)]) rfl dX9_split_146 ?_
          refine g_goto (pc := 147) X 7 (by decide) dX9_split_147 ?_
          refine g_lv (lv' := [(1, .int (iI y42)), (0, .ref t0)]) [0, 2] rfl ?_
          refine g_ws (ws' := [cO_riirrr t0 9 t_bytes ts y40 t_kinds t_places t_values, cA Z t_bytes 0 400 Tb, cA Z t_kinds 0 401 F37, cA Z t_places 0 401 F38, cA Z t_values 0 401 F39]) [1, 0, 2, 3, 4] (by decide) rfl ?_
          exact ih y42 y40 F37 F38 F39 (by omega) (by omega) (hf54_h_Tk2) (hf54_h_Tp2) (hf54_h_Tv2) (by omega) (by omega)
  exact loop7 _ 0 0 Tk Tp Tv (by omega) (by omega) (h_Tk) (h_Tp) (h_Tv) (by omega) (Nat.lt_succ_self _)
