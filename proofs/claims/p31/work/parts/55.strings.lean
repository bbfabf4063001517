set_option maxHeartbeats 4000000 in
set_option maxRecDepth 100000 in
theorem k_J0_coder_7d493 (l : Launch) (Z : gZ) (sj : Nat) (hsj : sj < 5) : Con l Z yJ0_coder_7d493 cJ0_coder_7d493 1 (some .byte) 0 0 0 0 [.ref (Z.2.2.1 sj)] [] (fun r w' => (r = some (.int (iI 0))) ∧ (w' = [])) := by
  refine enter (by decide) (Nat.le_of_ble_eq_true rfl) ?_
  intro p e s m args below meth c A X hnm hA
  have X : Cx p s m args meth c cJ0_coder_7d493 1 (some .byte) RJ0 Z A := X
  refine g_as (pc' := 0) (lv' := [(0, .ref (Z.2.2.1 sj))]) (st' := []) (ws' := []) rfl rfl rfl rfl ?_
  refine g_compact (pc := 0) X mw_13_12 dJ0_coder_7d493_0 ?_
  refine g_if_eqI (pc := 3) X 13 (by decide) ⟨by decide, by decide⟩ dJ0_coder_7d493_3 (fun h => absurd h (by decide)) (fun _ => ?_)
  refine g_aload_n (pc := 6) X 0 rfl dJ0_coder_7d493_6 ?_
  refine g_sCoder (pc := 7) X hsj mw_13_13 dJ0_coder_7d493_7 ?_
  refine g_goto (pc := 10) X 14 (by decide) dJ0_coder_7d493_10 ?_
  exact g_nret (pc := 14) X hA (rfl) (⟨rfl, rfl⟩) (by decide) (by decide) dJ0_coder_7d493_14

set_option maxHeartbeats 4000000 in
set_option maxRecDepth 100000 in
theorem k_J0_length_8abf5 (l : Launch) (Z : gZ) (sj : Nat) (hsj : sj < 5) : Con l Z yJ0_length_8abf5 cJ0_length_8abf5 1 (some .int) 1 20 0 0 [.ref (Z.2.2.1 sj)] [] (fun r w' => (r = some (.int (iI ((gLen.getD sj 0 : Nat) : Int)))) ∧ (w' = []) ∧ (((gLen.getD sj 0 : Nat) : Int) ≤ 6)) := by
  refine enter (by decide) (Nat.le_of_ble_eq_true rfl) ?_
  intro p e s m args below meth c A X hnm hA
  have X : Cx p s m args meth c cJ0_length_8abf5 1 (some .int) RJ0 Z A := X
  refine g_as (pc' := 0) (lv' := [(0, .ref (Z.2.2.1 sj))]) (st' := []) (ws' := []) rfl rfl rfl rfl ?_
  refine g_aload_n (pc := 0) X 0 rfl dJ0_length_8abf5_0 ?_
  refine g_sValue (pc := 1) X hsj mw_13_7 dJ0_length_8abf5_1 ?_
  refine g_sLen (pc := 4) X hsj dJ0_length_8abf5_4 ?_
  have hln4 := (gCh_ok sj hsj).1
  refine g_aload_n (pc := 5) X 0 rfl dJ0_length_8abf5_5 ?_
  refine g_callVS (pc := 6) (j := sj) X hsj (k_J0_coder_7d493 l Z sj (hsj)) iM_J0_coder_7d493 rfl mw_13_8 mw_13_9 mw_13_10 [] [] rfl (wr := []) rfl (by decide) rfl rfl (Nat.le_of_ble_eq_true rfl) (by decide) dJ0_length_8abf5_6 (fun r w' hpo => ?_)
  obtain ⟨rfl, rfl⟩ := hpo
  refine g_as (pc' := 9) (lv' := [(0, .ref (Z.2.2.1 sj))]) (st' := [.int (iI 0), .int (iI ((gLen.getD sj 0 : Nat) : Int))]) (ws' := []) rfl rfl rfl rfl ?_
  refine g_ishr (pc := 9) X dJ0_length_8abf5_9 ?_
  refine g_lit (y := iI ((gLen.getD sj 0 : Nat) : Int)) (shr0E) ?_
  exact g_iret (pc := 10) X hA (⟨rfl, rfl, (by omega)⟩) (by decide) (by decide) dJ0_length_8abf5_10

set_option maxHeartbeats 4000000 in
set_option maxRecDepth 100000 in
theorem k_J0_isLatin1_aae02 (l : Launch) (Z : gZ) (sj : Nat) (hsj : sj < 5) : Con l Z yJ0_isLatin1_aae02 cJ0_isLatin1_aae02 1 (some .boolean) 0 0 0 0 [.ref (Z.2.2.1 sj)] [] (fun r w' => (r = some (.int (iI 1))) ∧ (w' = [])) := by
  refine enter (by decide) (Nat.le_of_ble_eq_true rfl) ?_
  intro p e s m args below meth c A X hnm hA
  have X : Cx p s m args meth c cJ0_isLatin1_aae02 1 (some .boolean) RJ0 Z A := X
  refine g_as (pc' := 0) (lv' := [(0, .ref (Z.2.2.1 sj))]) (st' := []) (ws' := []) rfl rfl rfl rfl ?_
  refine g_compact (pc := 0) X mw_13_12 dJ0_isLatin1_aae02_0 ?_
  refine g_if_eqI (pc := 3) X 17 (by decide) ⟨by decide, by decide⟩ dJ0_isLatin1_aae02_3 (fun h => absurd h (by decide)) (fun _ => ?_)
  refine g_aload_n (pc := 6) X 0 rfl dJ0_isLatin1_aae02_6 ?_
  refine g_sCoder (pc := 7) X hsj mw_13_13 dJ0_isLatin1_aae02_7 ?_
  refine g_if_neI (pc := 10) X 17 (by decide) ⟨by decide, by decide⟩ dJ0_isLatin1_aae02_10 (fun h => absurd h (by decide)) (fun _ => ?_)
  refine g_iconst (pc := 13) X (iI 1) (by rfl) dJ0_isLatin1_aae02_13 ?_
  refine g_goto (pc := 14) X 18 (by decide) dJ0_isLatin1_aae02_14 ?_
  exact g_zret (pc := 18) X hA (rfl) (⟨rfl, rfl⟩) (by decide) (by decide) dJ0_isLatin1_aae02_18

set_option maxHeartbeats 4000000 in
set_option maxRecDepth 100000 in
theorem k_J3_checkIndex_8e157 (l : Launch) (Z : gZ) (t0 : Nat) (ix : Int) (ln : Int) (b_ix : (-2147483648) ≤ ix ∧ ix ≤ 2147483647) (b_ln : (-2147483648) ≤ ln ∧ ln ≤ 2147483647) (hi : 0 ≤ ix ∧ ix < ln) : Con l Z yJ3_checkIndex_8e157 cJ3_checkIndex_8e157 3 (some .int) 0 0 0 0 [.int (iI ix), .int (iI ln), .ref t0] [] (fun r w' => (r = some (.int (iI ix))) ∧ (w' = [])) := by
  refine enter (by decide) (Nat.le_of_ble_eq_true rfl) ?_
  intro p e s m args below meth c A X hnm hA
  have X : Cx p s m args meth c cJ3_checkIndex_8e157 3 (some .int) RJ3 Z A := X
  refine g_as (pc' := 0) (lv' := [(0, .int (iI ix)), (1, .int (iI ln)), (2, .ref t0)]) (st' := []) (ws' := []) rfl rfl rfl rfl ?_
  refine g_iload_n (pc := 0) X 0 rfl dJ3_checkIndex_8e157_0 ?_
  refine g_if_ltI (pc := 1) X 9 (by decide) b_ix dJ3_checkIndex_8e157_1 (fun h => absurd h (by omega)) (fun c1 => ?_)
  refine g_iload_n (pc := 4) X 0 rfl dJ3_checkIndex_8e157_4 ?_
  refine g_iload_n (pc := 5) X 1 rfl dJ3_checkIndex_8e157_5 ?_
  refine g_icmp_ltI (pc := 6) X 16 (by decide) b_ix b_ln dJ3_checkIndex_8e157_6 (fun c6 => ?_) (fun h => absurd h (by omega))
  refine g_iload_n (pc := 16) X 0 rfl dJ3_checkIndex_8e157_16 ?_
  exact g_iret (pc := 17) X hA (⟨rfl, rfl⟩) (by decide) (by decide) dJ3_checkIndex_8e157_17

set_option maxHeartbeats 4000000 in
set_option maxRecDepth 100000 in
theorem k_J3_checkIndexN (l : Launch) (Z : gZ) (ix : Int) (ln : Int) (b_ix : (-2147483648) ≤ ix ∧ ix ≤ 2147483647) (b_ln : (-2147483648) ≤ ln ∧ ln ≤ 2147483647) (hi : 0 ≤ ix ∧ ix < ln) : Con l Z yJ3_checkIndex_8e157 cJ3_checkIndex_8e157 3 (some .int) 0 0 0 0 [.int (iI ix), .int (iI ln), .null] [] (fun r w' => (r = some (.int (iI ix))) ∧ (w' = [])) := by
  refine enter (by decide) (Nat.le_of_ble_eq_true rfl) ?_
  intro p e s m args below meth c A X hnm hA
  have X : Cx p s m args meth c cJ3_checkIndex_8e157 3 (some .int) RJ3 Z A := X
  refine g_as (pc' := 0) (lv' := [(0, .int (iI ix)), (1, .int (iI ln)), (2, .null)]) (st' := []) (ws' := []) rfl rfl rfl rfl ?_
  refine g_iload_n (pc := 0) X 0 rfl dJ3_checkIndex_8e157_0 ?_
  refine g_if_ltI (pc := 1) X 9 (by decide) b_ix dJ3_checkIndex_8e157_1 (fun h => absurd h (by omega)) (fun c1 => ?_)
  refine g_iload_n (pc := 4) X 0 rfl dJ3_checkIndex_8e157_4 ?_
  refine g_iload_n (pc := 5) X 1 rfl dJ3_checkIndex_8e157_5 ?_
  refine g_icmp_ltI (pc := 6) X 16 (by decide) b_ix b_ln dJ3_checkIndex_8e157_6 (fun c6 => ?_) (fun h => absurd h (by omega))
  refine g_iload_n (pc := 16) X 0 rfl dJ3_checkIndex_8e157_16 ?_
  exact g_iret (pc := 17) X hA (⟨rfl, rfl⟩) (by decide) (by decide) dJ3_checkIndex_8e157_17

set_option maxHeartbeats 4000000 in
set_option maxRecDepth 100000 in
theorem k_J0_checkIndex_df160 (l : Launch) (Z : gZ) (ix : Int) (ln : Int) (b_ix : (-2147483648) ≤ ix ∧ ix ≤ 2147483647) (b_ln : (-2147483648) ≤ ln ∧ ln ≤ 2147483647) (hi : 0 ≤ ix ∧ ix < ln) : Con l Z yJ0_checkIndex_df160 cJ0_checkIndex_df160 2 none 1 22 0 0 [.int (iI ix), .int (iI ln)] [] (fun r w' => (r = none) ∧ (w' = [])) := by
  refine enter (by decide) (Nat.le_of_ble_eq_true rfl) ?_
  intro p e s m args below meth c A X hnm hA
  have X : Cx p s m args meth c cJ0_checkIndex_df160 2 none RJ0 Z A := X
  refine g_as (pc' := 0) (lv' := [(0, .int (iI ix)), (1, .int (iI ln))]) (st' := []) (ws' := []) rfl rfl rfl rfl ?_
  refine g_iload_n (pc := 0) X 0 rfl dJ0_checkIndex_df160_0 ?_
  refine g_iload_n (pc := 1) X 1 rfl dJ0_checkIndex_df160_1 ?_
  refine g_sioobe (pc := 2) X mw_14_5 dJ0_checkIndex_df160_2 ?_ (fun t1 => ?_)
  · refine g_callS (pc := 5) X (k_J3_checkIndexN l Z ix ln b_ix b_ln (by omega)) iM_J3_checkIndex_8e157 mw_14_6 mw_14_7 [] [] rfl (wr := []) rfl (by decide) rfl rfl (Nat.le_of_ble_eq_true rfl) (by decide) dJ0_checkIndex_df160_5 (fun r w' hpo => ?_)
    obtain ⟨rfl, rfl⟩ := hpo
    refine g_as (pc' := 8) (lv' := [(0, .int (iI ix)), (1, .int (iI ln))]) (st' := [.int (iI ix)]) (ws' := []) rfl rfl rfl rfl ?_
    refine g_pop (pc := 8) X rfl dJ0_checkIndex_df160_8 ?_
    exact g_vret (pc := 9) X hA (⟨rfl, rfl⟩) (by decide) (by decide) dJ0_checkIndex_df160_9
  · refine g_callS (pc := 5) X (k_J3_checkIndex_8e157 l Z t1 ix ln b_ix b_ln (by omega)) iM_J3_checkIndex_8e157 mw_14_6 mw_14_7 [] [] rfl (wr := []) rfl (by decide) rfl rfl (Nat.le_of_ble_eq_true rfl) (by decide) dJ0_checkIndex_df160_5 (fun r w' hpo => ?_)
    obtain ⟨rfl, rfl⟩ := hpo
    refine g_as (pc' := 8) (lv' := [(0, .int (iI ix)), (1, .int (iI ln))]) (st' := [.int (iI ix)]) (ws' := []) rfl rfl rfl rfl ?_
    refine g_pop (pc := 8) X rfl dJ0_checkIndex_df160_8 ?_
    exact g_vret (pc := 9) X hA (⟨rfl, rfl⟩) (by decide) (by decide) dJ0_checkIndex_df160_9

set_option maxHeartbeats 4000000 in
set_option maxRecDepth 100000 in
theorem k_J1_charAt_3b067 (l : Launch) (Z : gZ) (sj : Nat) (ix : Int) (b_ix : (-2147483648) ≤ ix ∧ ix ≤ 2147483647) (hsj : sj < 5) (hi : 0 ≤ ix ∧ ix < ((gLen.getD sj 0 : Nat) : Int)) : Con l Z yJ1_charAt_3b067 cJ1_charAt_3b067 2 (some .char) 2 43 0 0 [.ref (Z.2.2.2 sj), .int (iI ix)] [] (fun r w' => (r = some (.int (iI (gCh sj (ix).toNat)))) ∧ (w' = []) ∧ (97 ≤ gCh sj (ix).toNat ∧ gCh sj (ix).toNat ≤ 122)) := by
  refine enter (by decide) (Nat.le_of_ble_eq_true rfl) ?_
  intro p e s m args below meth c A X hnm hA
  have X : Cx p s m args meth c cJ1_charAt_3b067 2 (some .char) RJ1 Z A := X
  refine g_as (pc' := 0) (lv' := [(0, .ref (Z.2.2.2 sj)), (1, .int (iI ix))]) (st' := []) (ws' := []) rfl rfl rfl rfl ?_
  refine g_iload_n (pc := 0) X 1 rfl dJ1_charAt_3b067_0 ?_
  refine g_aload_n (pc := 1) X 0 rfl dJ1_charAt_3b067_1 ?_
  refine g_sLen (pc := 2) X hsj dJ1_charAt_3b067_2 ?_
  have hln2 := (gCh_ok sj hsj).1
  refine g_callS (pc := 3) X (k_J0_checkIndex_df160 l Z ix ((gLen.getD sj 0 : Nat) : Int) b_ix (by omega) (by omega)) iM_J0_checkIndex_df160 mw_14_2 mw_14_3 [] [] rfl (wr := []) rfl (by decide) rfl rfl (Nat.le_of_ble_eq_true rfl) (by decide) dJ1_charAt_3b067_3 (fun r w' hpo => ?_)
  obtain ⟨rfl, rfl⟩ := hpo
  refine g_as (pc' := 6) (lv' := [(0, .ref (Z.2.2.2 sj)), (1, .int (iI ix))]) (st' := []) (ws' := []) rfl rfl rfl rfl ?_
  refine g_aload_n (pc := 6) X 0 rfl dJ1_charAt_3b067_6 ?_
  refine g_iload_n (pc := 7) X 1 rfl dJ1_charAt_3b067_7 ?_
  refine g_sByte (pc := 8) X hsj (by omega) (by omega) dJ1_charAt_3b067_8 ?_
  have bch8 : 97 ≤ gCh sj (ix).toNat ∧ gCh sj (ix).toNat ≤ 122 := ((gCh_ok sj hsj).2 _ (by omega)).1
  refine g_sipush (pc := 9) X (iI 255) (by decide) dJ1_charAt_3b067_9 ?_
  refine g_iand (pc := 12) X dJ1_charAt_3b067_12 ?_
  refine g_lit (y := iI (gCh sj (ix).toNat)) (and255E (by omega) (by omega)) ?_
  refine g_i2c (pc := 13) X dJ1_charAt_3b067_13 ?_
  refine g_lit (y := iI (gCh sj (ix).toNat)) (i2cE (by omega) (by omega)) ?_
  exact g_nret (pc := 14) X hA (nar_char (by omega)) (⟨rfl, rfl, (by omega)⟩) (by decide) (by decide) dJ1_charAt_3b067_14

set_option maxHeartbeats 4000000 in
set_option maxRecDepth 100000 in
theorem k_J0_charAt_5068e (l : Launch) (Z : gZ) (sj : Nat) (ix : Int) (b_ix : (-2147483648) ≤ ix ∧ ix ≤ 2147483647) (hsj : sj < 5) (hi : 0 ≤ ix ∧ ix < ((gLen.getD sj 0 : Nat) : Int)) : Con l Z yJ0_charAt_5068e cJ0_charAt_5068e 2 (some .char) 3 64 0 0 [.ref (Z.2.2.1 sj), .int (iI ix)] [] (fun r w' => (r = some (.int (iI (gCh sj (ix).toNat)))) ∧ (w' = []) ∧ (97 ≤ gCh sj (ix).toNat ∧ gCh sj (ix).toNat ≤ 122)) := by
  refine enter (by decide) (Nat.le_of_ble_eq_true rfl) ?_
  intro p e s m args below meth c A X hnm hA
  have X : Cx p s m args meth c cJ0_charAt_5068e 2 (some .char) RJ0 Z A := X
  refine g_as (pc' := 0) (lv' := [(0, .ref (Z.2.2.1 sj)), (1, .int (iI ix))]) (st' := []) (ws' := []) rfl rfl rfl rfl ?_
  refine g_aload_n (pc := 0) X 0 rfl dJ0_charAt_5068e_0 ?_
  refine g_callVS (pc := 1) (j := sj) X hsj (k_J0_isLatin1_aae02 l Z sj (hsj)) iM_J0_isLatin1_aae02 rfl mw_13_18 mw_13_19 mw_13_20 [] [] rfl (wr := []) rfl (by decide) rfl rfl (Nat.le_of_ble_eq_true rfl) (by decide) dJ0_charAt_5068e_1 (fun r w' hpo => ?_)
  obtain ⟨rfl, rfl⟩ := hpo
  refine g_as (pc' := 4) (lv' := [(0, .ref (Z.2.2.1 sj)), (1, .int (iI ix))]) (st' := [.int (iI 1)]) (ws' := []) rfl rfl rfl rfl ?_
  refine g_if_eqI (pc := 4) X 16 (by decide) ⟨by decide, by decide⟩ dJ0_charAt_5068e_4 (fun h => absurd h (by decide)) (fun _ => ?_)
  refine g_aload_n (pc := 7) X 0 rfl dJ0_charAt_5068e_7 ?_
  refine g_sValue (pc := 8) X hsj mw_13_7 dJ0_charAt_5068e_8 ?_
  refine g_iload_n (pc := 11) X 1 rfl dJ0_charAt_5068e_11 ?_
  refine g_callS (pc := 12) X (k_J1_charAt_3b067 l Z sj ix b_ix (hsj) (hi)) iM_J1_charAt_3b067 mw_13_22 mw_13_23 [] [] rfl (wr := []) rfl (by decide) rfl rfl (Nat.le_of_ble_eq_true rfl) (by decide) dJ0_charAt_5068e_12 (fun r w' hpo => ?_)
  obtain ⟨rfl, rfl, hf12_fc⟩ := hpo
  refine g_as (pc' := 15) (lv' := [(0, .ref (Z.2.2.1 sj)), (1, .int (iI ix))]) (st' := [.int (iI (gCh sj (ix).toNat))]) (ws' := []) rfl rfl rfl rfl ?_
  exact g_nret (pc := 15) X hA (nar_char (by omega)) (⟨rfl, rfl, (by omega)⟩) (by decide) (by decide) dJ0_charAt_5068e_15
