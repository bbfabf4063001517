set_option maxHeartbeats 4000000 in
set_option maxRecDepth 100000 in
theorem c_addToken (l : Launch) (Z : gZ) (t0 : Nat) (t_bytes : Nat) (t_kinds : Nat) (t_places : Nat) (t_values : Nat) (f1 : Nat → Int32) (f2 : Nat → Int32) (f3 : Nat → Int32) (x1 : Int32) (x2 : Int32) (x3 : Int32) : Con l Z yX9_addToken cX9_addToken 4 none 0 0 0 0 [.ref t0, .int x1, .int x2, .int x3] [(t0, .inr (9, [.ref t_bytes, .int 0, .int 0, .ref t_kinds, .ref t_places, .ref t_values])), (t_kinds, .inl (Z.2.1 0, 401, .inl f1)), (t_places, .inl (Z.2.1 0, 401, .inl f2)), (t_values, .inl (Z.2.1 0, 401, .inl f3))] (fun r w' => r = none ∧ w' = [(t0, .inr (9, [.ref t_bytes, .int 0, .int 1, .ref t_kinds, .ref t_places, .ref t_values])), (t_kinds, .inl (Z.2.1 0, 401, .inl (upd f1 (0) x1))), (t_places, .inl (Z.2.1 0, 401, .inl (upd f2 (0) x2))), (t_values, .inl (Z.2.1 0, 401, .inl (upd f3 (0) x3)))]) := by
  refine enter (by decide) (Nat.le_of_ble_eq_true rfl) ?_
  intro p e s m args below meth c A X hnm hA
  have X : Cx p s m args meth c cX9_addToken 4 none RX9 Z A := X
  refine g_as (pc' := 0) (lv' := [(0, .ref t0), (1, .int x1), (2, .int x2), (3, .int x3)]) (st' := []) (ws' := [(t0, .inr (9, [.ref t_bytes, .int 0, .int 0, .ref t_kinds, .ref t_places, .ref t_values])), (t_kinds, .inl (Z.2.1 0, 401, .inl f1)), (t_places, .inl (Z.2.1 0, 401, .inl f2)), (t_values, .inl (Z.2.1 0, 401, .inl f3))]) rfl rfl rfl rfl ?_
  refine g_aload_n (pc := 0) X 0 rfl dX9_addToken_0 ?_
  refine g_get (pc := 1) X inlX9 0 rfl rfl 2 (by decide) mw_12_9 rfl dX9_addToken_1 ?_
  refine g_sipush (pc := 4) X 400 (by decide) dX9_addToken_4 ?_
  refine g_icmp_le (pc := 7) X 11 (by decide) dX9_addToken_7 (fun b7 => ?_) (fun h => absurd (by decide) h)
  refine g_aload_n (pc := 11) X 0 rfl dX9_addToken_11 ?_
  refine g_get (pc := 12) X inlX9 0 rfl rfl 3 (by decide) mw_3_13 rfl dX9_addToken_12 ?_
  refine g_aload_n (pc := 15) X 0 rfl dX9_addToken_15 ?_
  refine g_get (pc := 16) X inlX9 0 rfl rfl 2 (by decide) mw_12_9 rfl dX9_addToken_16 ?_
  refine g_iload_n (pc := 19) X 1 rfl dX9_addToken_19 ?_
  refine g_iast (pc := 20) X 1 rfl (vp_in_iff.mpr (by decide)) (ws' := [(t0, .inr (9, [.ref t_bytes, .int 0, .int 0, .ref t_kinds, .ref t_places, .ref t_values])), (t_kinds, .inl (Z.2.1 0, 401, .inl (upd f1 (0) x1))), (t_places, .inl (Z.2.1 0, 401, .inl f2)), (t_values, .inl (Z.2.1 0, 401, .inl f3))]) rfl dX9_addToken_20 ?_
  refine g_aload_n (pc := 21) X 0 rfl dX9_addToken_21 ?_
  refine g_get (pc := 22) X inlX9 0 rfl rfl 4 (by decide) mw_3_14 rfl dX9_addToken_22 ?_
  refine g_aload_n (pc := 25) X 0 rfl dX9_addToken_25 ?_
  refine g_get (pc := 26) X inlX9 0 rfl rfl 2 (by decide) mw_12_9 rfl dX9_addToken_26 ?_
  refine g_iload_n (pc := 29) X 2 rfl dX9_addToken_29 ?_
  refine g_iast (pc := 30) X 2 rfl (vp_in_iff.mpr (by decide)) (ws' := [(t0, .inr (9, [.ref t_bytes, .int 0, .int 0, .ref t_kinds, .ref t_places, .ref t_values])), (t_kinds, .inl (Z.2.1 0, 401, .inl (upd f1 (0) x1))), (t_places, .inl (Z.2.1 0, 401, .inl (upd f2 (0) x2))), (t_values, .inl (Z.2.1 0, 401, .inl f3))]) rfl dX9_addToken_30 ?_
  refine g_aload_n (pc := 31) X 0 rfl dX9_addToken_31 ?_
  refine g_get (pc := 32) X inlX9 0 rfl rfl 5 (by decide) mw_3_15 rfl dX9_addToken_32 ?_
  refine g_aload_n (pc := 35) X 0 rfl dX9_addToken_35 ?_
  refine g_get (pc := 36) X inlX9 0 rfl rfl 2 (by decide) mw_12_9 rfl dX9_addToken_36 ?_
  refine g_iload_n (pc := 39) X 3 rfl dX9_addToken_39 ?_
  refine g_iast (pc := 40) X 3 rfl (vp_in_iff.mpr (by decide)) (ws' := [(t0, .inr (9, [.ref t_bytes, .int 0, .int 0, .ref t_kinds, .ref t_places, .ref t_values])), (t_kinds, .inl (Z.2.1 0, 401, .inl (upd f1 (0) x1))), (t_places, .inl (Z.2.1 0, 401, .inl (upd f2 (0) x2))), (t_values, .inl (Z.2.1 0, 401, .inl (upd f3 (0) x3)))]) rfl dX9_addToken_40 ?_
  refine g_aload_n (pc := 41) X 0 rfl dX9_addToken_41 ?_
  refine g_dup (pc := 42) X rfl dX9_addToken_42 ?_
  refine g_get (pc := 43) X inlX9 0 rfl rfl 2 (by decide) mw_12_9 rfl dX9_addToken_43 ?_
  refine g_iconst (pc := 46) X 1 (by decide) dX9_addToken_46 ?_
  refine g_iadd (pc := 47) X dX9_addToken_47 ?_
  refine g_lit (y := 1) (by decide) ?_
  refine g_put (pc := 48) X inlX9 tyX9_ok nmX9 0 rfl rfl 2 (by decide) mw_12_9 rfl rfl rfl (Nat.le_of_ble_eq_true rfl) (ws' := [(t0, .inr (9, [.ref t_bytes, .int 0, .int 1, .ref t_kinds, .ref t_places, .ref t_values])), (t_kinds, .inl (Z.2.1 0, 401, .inl (upd f1 (0) x1))), (t_places, .inl (Z.2.1 0, 401, .inl (upd f2 (0) x2))), (t_values, .inl (Z.2.1 0, 401, .inl (upd f3 (0) x3)))]) rfl dX9_addToken_48 ?_
  exact g_vret (pc := 51) X hA (⟨rfl, rfl⟩) (by decide) (by decide) dX9_addToken_51

set_option maxHeartbeats 4000000 in
set_option maxRecDepth 100000 in
theorem c_split (l : Launch) (Z : gZ) (t0 : Nat) (t_bytes : Nat) (t_kinds : Nat) (t_places : Nat) (t_values : Nat) (f1 : Nat → Int32) (f2 : Nat → Int32) (f3 : Nat → Int32) : Con l Z yX9_split cX9_split 3 none 1 23 0 0 [.ref t0] [(t0, .inr (9, [.ref t_bytes, .int 0, .int 0, .ref t_kinds, .ref t_places, .ref t_values])), (t_kinds, .inl (Z.2.1 0, 401, .inl f1)), (t_places, .inl (Z.2.1 0, 401, .inl f2)), (t_values, .inl (Z.2.1 0, 401, .inl f3))] (fun r w' => r = none ∧ w' = [(t0, .inr (9, [.ref t_bytes, .int 0, .int 1, .ref t_kinds, .ref t_places, .ref t_values])), (t_kinds, .inl (Z.2.1 0, 401, .inl (upd f1 (0) 10))), (t_places, .inl (Z.2.1 0, 401, .inl (upd f2 (0) 0))), (t_values, .inl (Z.2.1 0, 401, .inl (upd f3 (0) 0)))]) := by
  refine enter (by decide) (Nat.le_of_ble_eq_true rfl) ?_
  intro p e s m args below meth c A X hnm hA
  have X : Cx p s m args meth c cX9_split 3 none RX9 Z A := X
  refine g_as (pc' := 0) (lv' := [(0, .ref t0)]) (st' := []) (ws' := [(t0, .inr (9, [.ref t_bytes, .int 0, .int 0, .ref t_kinds, .ref t_places, .ref t_values])), (t_kinds, .inl (Z.2.1 0, 401, .inl f1)), (t_places, .inl (Z.2.1 0, 401, .inl f2)), (t_values, .inl (Z.2.1 0, 401, .inl f3))]) rfl rfl rfl rfl ?_
  refine g_aload_n (pc := 0) X 0 rfl dX9_split_0 ?_
  refine g_iconst (pc := 1) X 0 (by decide) dX9_split_1 ?_
  refine g_put (pc := 2) X inlX9 tyX9_ok nmX9 0 rfl rfl 2 (by decide) mw_12_9 rfl rfl rfl (Nat.le_of_ble_eq_true rfl) (ws' := [(t0, .inr (9, [.ref t_bytes, .int 0, .int 0, .ref t_kinds, .ref t_places, .ref t_values])), (t_kinds, .inl (Z.2.1 0, 401, .inl f1)), (t_places, .inl (Z.2.1 0, 401, .inl f2)), (t_values, .inl (Z.2.1 0, 401, .inl f3))]) rfl dX9_split_2 ?_
  refine g_iconst (pc := 5) X 0 (by decide) dX9_split_5 ?_
  refine g_istore_n (pc := 6) X (i := 1) rfl (by decide) (lv' := [(1, .int 0), (0, .ref t0)]) rfl dX9_split_6 ?_
  refine g_iload_n (pc := 7) X 0 rfl dX9_split_7 ?_
  refine g_aload_n (pc := 8) X 1 rfl dX9_split_8 ?_
  refine g_get (pc := 9) X inlX9 0 rfl rfl 1 (by decide) mw_10_8 rfl dX9_split_9 ?_
  refine g_icmp_ge (pc := 12) X 150 (by decide) dX9_split_12 (fun b12 => ?_) (fun h => absurd (by decide) h)
  refine g_aload_n (pc := 150) X 1 rfl dX9_split_150 ?_
  refine g_bipush (pc := 151) X 10 (by decide) dX9_split_151 ?_
  refine g_aload_n (pc := 153) X 1 rfl dX9_split_153 ?_
  refine g_get (pc := 154) X inlX9 0 rfl rfl 1 (by decide) mw_10_8 rfl dX9_split_154 ?_
  refine g_iconst (pc := 157) X 0 (by decide) dX9_split_157 ?_
  refine g_callV (pc := 158) X (c_addToken l Z t0 t_bytes t_kinds t_places t_values f1 f2 f3 10 0 0) iM_X9_addToken mw_15_3 mw_15_4 mw_15_5 0 rfl rfl [0, 1, 2, 3] [] rfl (wr := []) rfl (by decide) rfl rfl (Nat.le_of_ble_eq_true rfl) (by decide) dX9_split_158 (fun r w' hpo => ?_)
  obtain ⟨rfl, rfl⟩ := hpo
  refine g_as (pc' := 161) (lv' := [(1, .int 0), (0, .ref t0)]) (st' := []) (ws' := [(t0, .inr (9, [.ref t_bytes, .int 0, .int 1, .ref t_kinds, .ref t_places, .ref t_values])), (t_kinds, .inl (Z.2.1 0, 401, .inl (upd f1 (0) 10))), (t_places, .inl (Z.2.1 0, 401, .inl (upd f2 (0) 0))), (t_values, .inl (Z.2.1 0, 401, .inl (upd f3 (0) 0)))]) rfl rfl rfl rfl ?_
  exact g_vret (pc := 161) X hA (⟨rfl, rfl⟩) (by decide) (by decide) dX9_split_161

set_option maxHeartbeats 4000000 in
set_option maxRecDepth 100000 in
theorem c_Wclear (l : Launch) (Z : gZ) (w0 : Nat) (w_begins : Nat) (w_lengths : Nat) (w_lefts : Nat) (w_rights : Nat) (w_leans : Nat) (w_leaning : Nat) : Con l Z yX10_clear cX10_clear 1 none 0 0 0 0 [.ref w0] [(w0, .inr (10, [.ref w_begins, .ref w_lengths, .ref w_lefts, .ref w_rights, .ref w_leans, .ref w_leaning, .int 0, .int 0]))] (fun r w' => r = none ∧ w' = [(w0, .inr (10, [.ref w_begins, .ref w_lengths, .ref w_lefts, .ref w_rights, .ref w_leans, .ref w_leaning, .int 0, .int 0]))]) := by
  refine enter (by decide) (Nat.le_of_ble_eq_true rfl) ?_
  intro p e s m args below meth c A X hnm hA
  have X : Cx p s m args meth c cX10_clear 1 none RX10 Z A := X
  refine g_as (pc' := 0) (lv' := [(0, .ref w0)]) (st' := []) (ws' := [(w0, .inr (10, [.ref w_begins, .ref w_lengths, .ref w_lefts, .ref w_rights, .ref w_leans, .ref w_leaning, .int 0, .int 0]))]) rfl rfl rfl rfl ?_
  refine g_aload_n (pc := 0) X 0 rfl dX10_clear_0 ?_
  refine g_iconst (pc := 1) X 0 (by decide) dX10_clear_1 ?_
  refine g_put (pc := 2) X inlX10 tyX10_ok nmX10 0 rfl rfl 6 (by decide) mw_16_4 rfl rfl rfl (Nat.le_of_ble_eq_true rfl) (ws' := [(w0, .inr (10, [.ref w_begins, .ref w_lengths, .ref w_lefts, .ref w_rights, .ref w_leans, .ref w_leaning, .int 0, .int 0]))]) rfl dX10_clear_2 ?_
  refine g_aload_n (pc := 5) X 0 rfl dX10_clear_5 ?_
  refine g_iconst (pc := 6) X 0 (by decide) dX10_clear_6 ?_
  refine g_put (pc := 7) X inlX10 tyX10_ok nmX10 0 rfl rfl 7 (by decide) mw_16_5 rfl rfl rfl (Nat.le_of_ble_eq_true rfl) (ws' := [(w0, .inr (10, [.ref w_begins, .ref w_lengths, .ref w_lefts, .ref w_rights, .ref w_leans, .ref w_leaning, .int 0, .int 0]))]) rfl dX10_clear_7 ?_
  exact g_vret (pc := 10) X hA (⟨rfl, rfl⟩) (by decide) (by decide) dX10_clear_10

set_option maxHeartbeats 4000000 in
set_option maxRecDepth 100000 in
theorem c_Rclear (l : Launch) (Z : gZ) (r0 : Nat) (w0 : Nat) (r_doors : Nat) (r_openingWalls : Nat) (r_froms : Nat) (r_tos : Nat) (r_lowers : Nat) (r_uppers : Nat) (r_standWalls : Nat) (r_standXs : Nat) (r_standYs : Nat) (w_begins : Nat) (w_lengths : Nat) (w_lefts : Nat) (w_rights : Nat) (w_leans : Nat) (w_leaning : Nat) : Con l Z yX6_clear cX6_clear 1 none 1 20 0 0 [.ref r0] [(r0, .inr (6, [.ref w0, .int 0, .ref r_doors, .ref r_openingWalls, .ref r_froms, .ref r_tos, .ref r_lowers, .ref r_uppers, .int 0, .ref r_standWalls, .ref r_standXs, .ref r_standYs])), (w0, .inr (10, [.ref w_begins, .ref w_lengths, .ref w_lefts, .ref w_rights, .ref w_leans, .ref w_leaning, .int 0, .int 0]))] (fun r w' => r = none ∧ w' = [(r0, .inr (6, [.ref w0, .int 0, .ref r_doors, .ref r_openingWalls, .ref r_froms, .ref r_tos, .ref r_lowers, .ref r_uppers, .int 0, .ref r_standWalls, .ref r_standXs, .ref r_standYs])), (w0, .inr (10, [.ref w_begins, .ref w_lengths, .ref w_lefts, .ref w_rights, .ref w_leans, .ref w_leaning, .int 0, .int 0]))]) := by
  refine enter (by decide) (Nat.le_of_ble_eq_true rfl) ?_
  intro p e s m args below meth c A X hnm hA
  have X : Cx p s m args meth c cX6_clear 1 none RX6 Z A := X
  refine g_as (pc' := 0) (lv' := [(0, .ref r0)]) (st' := []) (ws' := [(r0, .inr (6, [.ref w0, .int 0, .ref r_doors, .ref r_openingWalls, .ref r_froms, .ref r_tos, .ref r_lowers, .ref r_uppers, .int 0, .ref r_standWalls, .ref r_standXs, .ref r_standYs])), (w0, .inr (10, [.ref w_begins, .ref w_lengths, .ref w_lefts, .ref w_rights, .ref w_leans, .ref w_leaning, .int 0, .int 0]))]) rfl rfl rfl rfl ?_
  refine g_aload_n (pc := 0) X 0 rfl dX6_clear_0 ?_
  refine g_get (pc := 1) X inlX6 0 rfl rfl 0 (by decide) mw_6_11 rfl dX6_clear_1 ?_
  refine g_callV (pc := 4) X (c_Wclear l Z w0 w_begins w_lengths w_lefts w_rights w_leans w_leaning) iM_X10_clear mw_16_0 mw_16_1 mw_16_2 1 rfl rfl [1] [0] rfl (wr := [(r0, .inr (6, [.ref w0, .int 0, .ref r_doors, .ref r_openingWalls, .ref r_froms, .ref r_tos, .ref r_lowers, .ref r_uppers, .int 0, .ref r_standWalls, .ref r_standXs, .ref r_standYs]))]) rfl (by decide) rfl rfl (Nat.le_of_ble_eq_true rfl) (by decide) dX6_clear_4 (fun r w' hpo => ?_)
  obtain ⟨rfl, rfl⟩ := hpo
  refine g_as (pc' := 7) (lv' := [(0, .ref r0)]) (st' := []) (ws' := [(r0, .inr (6, [.ref w0, .int 0, .ref r_doors, .ref r_openingWalls, .ref r_froms, .ref r_tos, .ref r_lowers, .ref r_uppers, .int 0, .ref r_standWalls, .ref r_standXs, .ref r_standYs])), (w0, .inr (10, [.ref w_begins, .ref w_lengths, .ref w_lefts, .ref w_rights, .ref w_leans, .ref w_leaning, .int 0, .int 0]))]) rfl rfl rfl rfl ?_
  refine g_aload_n (pc := 7) X 0 rfl dX6_clear_7 ?_
  refine g_iconst (pc := 8) X 0 (by decide) dX6_clear_8 ?_
  refine g_put (pc := 9) X inlX6 tyX6_ok nmX6 0 rfl rfl 1 (by decide) mw_15_22 rfl rfl rfl (Nat.le_of_ble_eq_true rfl) (ws' := [(r0, .inr (6, [.ref w0, .int 0, .ref r_doors, .ref r_openingWalls, .ref r_froms, .ref r_tos, .ref r_lowers, .ref r_uppers, .int 0, .ref r_standWalls, .ref r_standXs, .ref r_standYs])), (w0, .inr (10, [.ref w_begins, .ref w_lengths, .ref w_lefts, .ref w_rights, .ref w_leans, .ref w_leaning, .int 0, .int 0]))]) rfl dX6_clear_9 ?_
  refine g_aload_n (pc := 12) X 0 rfl dX6_clear_12 ?_
  refine g_iconst (pc := 13) X 0 (by decide) dX6_clear_13 ?_
  refine g_put (pc := 14) X inlX6 tyX6_ok nmX6 0 rfl rfl 8 (by decide) mw_15_23 rfl rfl rfl (Nat.le_of_ble_eq_true rfl) (ws' := [(r0, .inr (6, [.ref w0, .int 0, .ref r_doors, .ref r_openingWalls, .ref r_froms, .ref r_tos, .ref r_lowers, .ref r_uppers, .int 0, .ref r_standWalls, .ref r_standXs, .ref r_standYs])), (w0, .inr (10, [.ref w_begins, .ref w_lengths, .ref w_lefts, .ref w_rights, .ref w_leans, .ref w_leaning, .int 0, .int 0]))]) rfl dX6_clear_14 ?_
  exact g_vret (pc := 17) X hA (⟨rfl, rfl⟩) (by decide) (by decide) dX6_clear_17

set_option maxHeartbeats 4000000 in
set_option maxRecDepth 100000 in
theorem c_isNext (l : Launch) (Z : gZ) (e0 : Nat) (t0 : Nat) (r0 : Nat) (t_bytes : Nat) (t_kinds : Nat) (t_places : Nat) (t_values : Nat) (f1 : Nat → Int32) (hk : f1 0 = 10) : Con l Z yX4_isNext cX4_isNext 2 (some .boolean) 0 0 0 0 [.ref e0, .int 10] [(e0, .inr (4, [.ref t0, .ref r0, .int 0])), (t0, .inr (9, [.ref t_bytes, .int 0, .int 1, .ref t_kinds, .ref t_places, .ref t_values])), (t_kinds, .inl (Z.2.1 0, 401, .inl f1))] (fun r w' => r = some (.int 1) ∧ w' = [(e0, .inr (4, [.ref t0, .ref r0, .int 0])), (t0, .inr (9, [.ref t_bytes, .int 0, .int 1, .ref t_kinds, .ref t_places, .ref t_values])), (t_kinds, .inl (Z.2.1 0, 401, .inl f1))]) := by
  refine enter (by decide) (Nat.le_of_ble_eq_true rfl) ?_
  intro p e s m args below meth c A X hnm hA
  have X : Cx p s m args meth c cX4_isNext 2 (some .boolean) RX4 Z A := X
  refine g_as (pc' := 0) (lv' := [(0, .ref e0), (1, .int 10)]) (st' := []) (ws' := [(e0, .inr (4, [.ref t0, .ref r0, .int 0])), (t0, .inr (9, [.ref t_bytes, .int 0, .int 1, .ref t_kinds, .ref t_places, .ref t_values])), (t_kinds, .inl (Z.2.1 0, 401, .inl f1))]) rfl rfl rfl rfl ?_
  refine g_aload_n (pc := 0) X 0 rfl dX4_isNext_0 ?_
  refine g_get (pc := 1) X inlX4 0 rfl rfl 2 (by decide) mw_12_0 rfl dX4_isNext_1 ?_
  refine g_aload_n (pc := 4) X 0 rfl dX4_isNext_4 ?_
  refine g_get (pc := 5) X inlX4 0 rfl rfl 0 (by decide) mw_3_20 rfl dX4_isNext_5 ?_
  refine g_get (pc := 8) X inlX9 1 rfl rfl 2 (by decide) mw_16_10 rfl dX4_isNext_8 ?_
  refine g_icmp_ge (pc := 11) X 34 (by decide) dX4_isNext_11 (fun h => absurd h (by decide)) (fun b11 => ?_)
  refine g_aload_n (pc := 14) X 0 rfl dX4_isNext_14 ?_
  refine g_get (pc := 15) X inlX4 0 rfl rfl 0 (by decide) mw_3_20 rfl dX4_isNext_15 ?_
  refine g_get (pc := 18) X inlX9 1 rfl rfl 3 (by decide) mw_16_11 rfl dX4_isNext_18 ?_
  refine g_aload_n (pc := 21) X 0 rfl dX4_isNext_21 ?_
  refine g_get (pc := 22) X inlX4 0 rfl rfl 2 (by decide) mw_12_0 rfl dX4_isNext_22 ?_
  refine g_iald (pc := 25) X 2 rfl (vp_in_iff.mpr (by decide)) dX4_isNext_25 ?_
  refine g_lit (y := 10) (hk) ?_
  refine g_iload_n (pc := 26) X 1 rfl dX4_isNext_26 ?_
  refine g_icmp_ne (pc := 27) X 34 (by decide) dX4_isNext_27 (fun h => absurd (by decide) h) (fun b27 => ?_)
  refine g_iconst (pc := 30) X 1 (by decide) dX4_isNext_30 ?_
  refine g_goto (pc := 31) X 35 (by decide) dX4_isNext_31 ?_
  exact g_zret (pc := 35) X hA (rfl) (⟨rfl, rfl⟩) (by decide) (by decide) dX4_isNext_35

set_option maxHeartbeats 4000000 in
set_option maxRecDepth 100000 in
theorem c_read (l : Launch) (Z : gZ) (e0 : Nat) (t0 : Nat) (r0 : Nat) (t_bytes : Nat) (t_kinds : Nat) (t_places : Nat) (t_values : Nat) (f1 : Nat → Int32) (f2 : Nat → Int32) (f3 : Nat → Int32) (w0 : Nat) (r_doors : Nat) (r_openingWalls : Nat) (r_froms : Nat) (r_tos : Nat) (r_lowers : Nat) (r_uppers : Nat) (r_standWalls : Nat) (r_standXs : Nat) (r_standYs : Nat) (w_begins : Nat) (w_lengths : Nat) (w_lefts : Nat) (w_rights : Nat) (w_leans : Nat) (w_leaning : Nat) : Con l Z yX4_read cX4_read 3 (some .int) 2 45 0 0 [.ref e0, .ref r0] [(e0, .inr (4, [.ref t0, .null, .int 0])), (t0, .inr (9, [.ref t_bytes, .int 0, .int 0, .ref t_kinds, .ref t_places, .ref t_values])), (r0, .inr (6, [.ref w0, .int 0, .ref r_doors, .ref r_openingWalls, .ref r_froms, .ref r_tos, .ref r_lowers, .ref r_uppers, .int 0, .ref r_standWalls, .ref r_standXs, .ref r_standYs])), (w0, .inr (10, [.ref w_begins, .ref w_lengths, .ref w_lefts, .ref w_rights, .ref w_leans, .ref w_leaning, .int 0, .int 0])), (t_kinds, .inl (Z.2.1 0, 401, .inl f1)), (t_places, .inl (Z.2.1 0, 401, .inl f2)), (t_values, .inl (Z.2.1 0, 401, .inl f3))] (fun r w' => r = some (.int 0)) := by
  refine enter (by decide) (Nat.le_of_ble_eq_true rfl) ?_
  intro p e s m args below meth c A X hnm hA
  have X : Cx p s m args meth c cX4_read 3 (some .int) RX4 Z A := X
  refine g_as (pc' := 0) (lv' := [(0, .ref e0), (1, .ref r0)]) (st' := []) (ws' := [(e0, .inr (4, [.ref t0, .null, .int 0])), (t0, .inr (9, [.ref t_bytes, .int 0, .int 0, .ref t_kinds, .ref t_places, .ref t_values])), (r0, .inr (6, [.ref w0, .int 0, .ref r_doors, .ref r_openingWalls, .ref r_froms, .ref r_tos, .ref r_lowers, .ref r_uppers, .int 0, .ref r_standWalls, .ref r_standXs, .ref r_standYs])), (w0, .inr (10, [.ref w_begins, .ref w_lengths, .ref w_lefts, .ref w_rights, .ref w_leans, .ref w_leaning, .int 0, .int 0])), (t_kinds, .inl (Z.2.1 0, 401, .inl f1)), (t_places, .inl (Z.2.1 0, 401, .inl f2)), (t_values, .inl (Z.2.1 0, 401, .inl f3))]) rfl rfl rfl rfl ?_
  refine g_aload_n (pc := 0) X 0 rfl dX4_read_0 ?_
  refine g_get (pc := 1) X inlX4 0 rfl rfl 0 (by decide) mw_3_20 rfl dX4_read_1 ?_
  refine g_callV (pc := 4) X (c_split l Z t0 t_bytes t_kinds t_places t_values f1 f2 f3) iM_X9_split mw_12_5 mw_12_6 mw_12_7 1 rfl rfl [1, 4, 5, 6] [0, 2, 3] rfl (wr := [(e0, .inr (4, [.ref t0, .null, .int 0])), (r0, .inr (6, [.ref w0, .int 0, .ref r_doors, .ref r_openingWalls, .ref r_froms, .ref r_tos, .ref r_lowers, .ref r_uppers, .int 0, .ref r_standWalls, .ref r_standXs, .ref r_standYs])), (w0, .inr (10, [.ref w_begins, .ref w_lengths, .ref w_lefts, .ref w_rights, .ref w_leans, .ref w_leaning, .int 0, .int 0]))]) rfl (by decide) rfl rfl (Nat.le_of_ble_eq_true rfl) (by decide) dX4_read_4 (fun r w' hpo => ?_)
  obtain ⟨rfl, rfl⟩ := hpo
  refine g_as (pc' := 7) (lv' := [(0, .ref e0), (1, .ref r0)]) (st' := []) (ws' := [(e0, .inr (4, [.ref t0, .null, .int 0])), (r0, .inr (6, [.ref w0, .int 0, .ref r_doors, .ref r_openingWalls, .ref r_froms, .ref r_tos, .ref r_lowers, .ref r_uppers, .int 0, .ref r_standWalls, .ref r_standXs, .ref r_standYs])), (w0, .inr (10, [.ref w_begins, .ref w_lengths, .ref w_lefts, .ref w_rights, .ref w_leans, .ref w_leaning, .int 0, .int 0])), (t0, .inr (9, [.ref t_bytes, .int 0, .int 1, .ref t_kinds, .ref t_places, .ref t_values])), (t_kinds, .inl (Z.2.1 0, 401, .inl (upd f1 (0) 10))), (t_places, .inl (Z.2.1 0, 401, .inl (upd f2 (0) 0))), (t_values, .inl (Z.2.1 0, 401, .inl (upd f3 (0) 0)))]) rfl rfl rfl rfl ?_
  refine g_aload_n (pc := 7) X 0 rfl dX4_read_7 ?_
  refine g_iconst (pc := 8) X 0 (by decide) dX4_read_8 ?_
  refine g_put (pc := 9) X inlX4 tyX4_ok nmX4 0 rfl rfl 2 (by decide) mw_12_0 rfl rfl rfl (Nat.le_of_ble_eq_true rfl) (ws' := [(e0, .inr (4, [.ref t0, .null, .int 0])), (r0, .inr (6, [.ref w0, .int 0, .ref r_doors, .ref r_openingWalls, .ref r_froms, .ref r_tos, .ref r_lowers, .ref r_uppers, .int 0, .ref r_standWalls, .ref r_standXs, .ref r_standYs])), (w0, .inr (10, [.ref w_begins, .ref w_lengths, .ref w_lefts, .ref w_rights, .ref w_leans, .ref w_leaning, .int 0, .int 0])), (t0, .inr (9, [.ref t_bytes, .int 0, .int 1, .ref t_kinds, .ref t_places, .ref t_values])), (t_kinds, .inl (Z.2.1 0, 401, .inl (upd f1 (0) 10))), (t_places, .inl (Z.2.1 0, 401, .inl (upd f2 (0) 0))), (t_values, .inl (Z.2.1 0, 401, .inl (upd f3 (0) 0)))]) rfl dX4_read_9 ?_
  refine g_aload_n (pc := 12) X 0 rfl dX4_read_12 ?_
  refine g_aload_n (pc := 13) X 1 rfl dX4_read_13 ?_
  refine g_put (pc := 14) X inlX4 tyX4_ok nmX4 0 rfl rfl 1 (by decide) mw_12_1 rfl rfl rfl (Nat.le_of_ble_eq_true rfl) (ws' := [(e0, .inr (4, [.ref t0, .ref r0, .int 0])), (r0, .inr (6, [.ref w0, .int 0, .ref r_doors, .ref r_openingWalls, .ref r_froms, .ref r_tos, .ref r_lowers, .ref r_uppers, .int 0, .ref r_standWalls, .ref r_standXs, .ref r_standYs])), (w0, .inr (10, [.ref w_begins, .ref w_lengths, .ref w_lefts, .ref w_rights, .ref w_leans, .ref w_leaning, .int 0, .int 0])), (t0, .inr (9, [.ref t_bytes, .int 0, .int 1, .ref t_kinds, .ref t_places, .ref t_values])), (t_kinds, .inl (Z.2.1 0, 401, .inl (upd f1 (0) 10))), (t_places, .inl (Z.2.1 0, 401, .inl (upd f2 (0) 0))), (t_values, .inl (Z.2.1 0, 401, .inl (upd f3 (0) 0)))]) rfl dX4_read_14 ?_
  refine g_aload_n (pc := 17) X 0 rfl dX4_read_17 ?_
  refine g_get (pc := 18) X inlX4 0 rfl rfl 1 (by decide) mw_12_1 rfl dX4_read_18 ?_
  refine g_callV (pc := 21) X (c_Rclear l Z r0 w0 r_doors r_openingWalls r_froms r_tos r_lowers r_uppers r_standWalls r_standXs r_standYs w_begins w_lengths w_lefts w_rights w_leans w_leaning) iM_X6_clear mw_15_18 mw_15_19 mw_15_20 1 rfl rfl [1, 2] [0, 3, 4, 5, 6] rfl (wr := [(e0, .inr (4, [.ref t0, .ref r0, .int 0])), (t0, .inr (9, [.ref t_bytes, .int 0, .int 1, .ref t_kinds, .ref t_places, .ref t_values])), (t_kinds, .inl (Z.2.1 0, 401, .inl (upd f1 (0) 10))), (t_places, .inl (Z.2.1 0, 401, .inl (upd f2 (0) 0))), (t_values, .inl (Z.2.1 0, 401, .inl (upd f3 (0) 0)))]) rfl (by decide) rfl rfl (Nat.le_of_ble_eq_true rfl) (by decide) dX4_read_21 (fun r w' hpo => ?_)
  obtain ⟨rfl, rfl⟩ := hpo
  refine g_as (pc' := 24) (lv' := [(0, .ref e0), (1, .ref r0)]) (st' := []) (ws' := [(e0, .inr (4, [.ref t0, .ref r0, .int 0])), (t0, .inr (9, [.ref t_bytes, .int 0, .int 1, .ref t_kinds, .ref t_places, .ref t_values])), (t_kinds, .inl (Z.2.1 0, 401, .inl (upd f1 (0) 10))), (t_places, .inl (Z.2.1 0, 401, .inl (upd f2 (0) 0))), (t_values, .inl (Z.2.1 0, 401, .inl (upd f3 (0) 0))), (r0, .inr (6, [.ref w0, .int 0, .ref r_doors, .ref r_openingWalls, .ref r_froms, .ref r_tos, .ref r_lowers, .ref r_uppers, .int 0, .ref r_standWalls, .ref r_standXs, .ref r_standYs])), (w0, .inr (10, [.ref w_begins, .ref w_lengths, .ref w_lefts, .ref w_rights, .ref w_leans, .ref w_leaning, .int 0, .int 0]))]) rfl rfl rfl rfl ?_
  refine g_iconst (pc := 24) X 0 (by decide) dX4_read_24 ?_
  refine g_istore_n (pc := 25) X (i := 2) rfl (by decide) (lv' := [(2, .int 0), (0, .ref e0), (1, .ref r0)]) rfl dX4_read_25 ?_
  refine g_iload_n (pc := 26) X 0 rfl dX4_read_26 ?_
  refine g_sipush (pc := 27) X 400 (by decide) dX4_read_27 ?_
  refine g_icmp_ge (pc := 30) X 60 (by decide) dX4_read_30 (fun h => absurd h (by decide)) (fun b30 => ?_)
  refine g_aload_n (pc := 33) X 1 rfl dX4_read_33 ?_
  refine g_bipush (pc := 34) X 10 (by decide) dX4_read_34 ?_
  refine g_callV (pc := 36) X (c_isNext l Z e0 t0 r0 t_bytes t_kinds t_places t_values (upd f1 (0) 10) (rfl)) iM_X4_isNext mw_16_6 mw_16_7 mw_16_8 0 rfl rfl [0, 1, 2] [3, 4, 5, 6] rfl (wr := [(t_places, .inl (Z.2.1 0, 401, .inl (upd f2 (0) 0))), (t_values, .inl (Z.2.1 0, 401, .inl (upd f3 (0) 0))), (r0, .inr (6, [.ref w0, .int 0, .ref r_doors, .ref r_openingWalls, .ref r_froms, .ref r_tos, .ref r_lowers, .ref r_uppers, .int 0, .ref r_standWalls, .ref r_standXs, .ref r_standYs])), (w0, .inr (10, [.ref w_begins, .ref w_lengths, .ref w_lefts, .ref w_rights, .ref w_leans, .ref w_leaning, .int 0, .int 0]))]) rfl (by decide) rfl rfl (Nat.le_of_ble_eq_true rfl) (by decide) dX4_read_36 (fun r w' hpo => ?_)
  obtain ⟨rfl, rfl⟩ := hpo
  refine g_as (pc' := 39) (lv' := [(2, .int 0), (0, .ref e0), (1, .ref r0)]) (st' := [.int 1]) (ws' := [(t_places, .inl (Z.2.1 0, 401, .inl (upd f2 (0) 0))), (t_values, .inl (Z.2.1 0, 401, .inl (upd f3 (0) 0))), (r0, .inr (6, [.ref w0, .int 0, .ref r_doors, .ref r_openingWalls, .ref r_froms, .ref r_tos, .ref r_lowers, .ref r_uppers, .int 0, .ref r_standWalls, .ref r_standXs, .ref r_standYs])), (w0, .inr (10, [.ref w_begins, .ref w_lengths, .ref w_lefts, .ref w_rights, .ref w_leans, .ref w_leaning, .int 0, .int 0])), (e0, .inr (4, [.ref t0, .ref r0, .int 0])), (t0, .inr (9, [.ref t_bytes, .int 0, .int 1, .ref t_kinds, .ref t_places, .ref t_values])), (t_kinds, .inl (Z.2.1 0, 401, .inl (upd f1 (0) 10)))]) rfl rfl rfl rfl ?_
  refine g_if_ne (pc := 39) X 60 (by decide) dX4_read_39 (fun b39 => ?_) (fun h => absurd h (by decide))
  refine g_aload_n (pc := 60) X 1 rfl dX4_read_60 ?_
  refine g_get (pc := 61) X inlX4 4 rfl rfl 1 (by decide) mw_12_1 rfl dX4_read_61 ?_
  refine g_get (pc := 64) X inlX6 2 rfl rfl 0 (by decide) mw_12_2 rfl dX4_read_64 ?_
  refine g_get (pc := 67) X inlX10 3 rfl rfl 6 (by decide) mw_12_3 rfl dX4_read_67 ?_
  refine g_if_ne (pc := 70) X 83 (by decide) dX4_read_70 (fun h => absurd (by decide) h) (fun b70 => ?_)
  refine g_aload_n (pc := 73) X 1 rfl dX4_read_73 ?_
  refine g_get (pc := 74) X inlX4 4 rfl rfl 0 (by decide) mw_3_20 rfl dX4_read_74 ?_
  refine g_get (pc := 77) X inlX9 5 rfl rfl 1 (by decide) mw_12_4 rfl dX4_read_77 ?_
  refine g_goto (pc := 80) X 84 (by decide) dX4_read_80 ?_
  exact g_iret (pc := 84) X hA (rfl) (by decide) (by decide) dX4_read_84

set_option maxHeartbeats 4000000 in
set_option maxRecDepth 100000 in
theorem c_fault (l : Launch) (Z : gZ) (h0 : Nat) (a1 : Nat) (a2 : Nat) (a3 : Nat) (a4 : Nat) (a5 : Nat) (a6 : Nat) (a7 : Nat) (a8 : Nat) (a9 : Nat) (a10 : Nat) (a11 : Nat) (a12 : Nat) (t_bytes : Nat) (t_kinds : Nat) (t_places : Nat) (t_values : Nat) (f1 : Nat → Int32) (f2 : Nat → Int32) (f3 : Nat → Int32) (w0 : Nat) (r_doors : Nat) (r_openingWalls : Nat) (r_froms : Nat) (r_tos : Nat) (r_lowers : Nat) (r_uppers : Nat) (r_standWalls : Nat) (r_standXs : Nat) (r_standYs : Nat) (w_begins : Nat) (w_lengths : Nat) (w_lefts : Nat) (w_rights : Nat) (w_leans : Nat) (w_leaning : Nat) : Con l Z yX11_fault cX11_fault 1 (some .int) 3 67 0 0 [.ref h0] [(h0, .inr (11, [.ref a1, .ref a2, .ref a3, .ref a4, .ref a5, .ref a6, .ref a7, .ref a8, .ref a9, .ref a10, .ref a11, .ref a12, .int 0, .int 0, .int 5])), (a2, .inr (4, [.ref a1, .null, .int 0])), (a1, .inr (9, [.ref t_bytes, .int 0, .int 0, .ref t_kinds, .ref t_places, .ref t_values])), (a12, .inr (6, [.ref w0, .int 0, .ref r_doors, .ref r_openingWalls, .ref r_froms, .ref r_tos, .ref r_lowers, .ref r_uppers, .int 0, .ref r_standWalls, .ref r_standXs, .ref r_standYs])), (w0, .inr (10, [.ref w_begins, .ref w_lengths, .ref w_lefts, .ref w_rights, .ref w_leans, .ref w_leaning, .int 0, .int 0])), (t_kinds, .inl (Z.2.1 0, 401, .inl f1)), (t_places, .inl (Z.2.1 0, 401, .inl f2)), (t_values, .inl (Z.2.1 0, 401, .inl f3))] (fun r w' => r = some (.int 0)) := by
  refine enter (by decide) (Nat.le_of_ble_eq_true rfl) ?_
  intro p e s m args below meth c A X hnm hA
  have X : Cx p s m args meth c cX11_fault 1 (some .int) RX11 Z A := X
  refine g_as (pc' := 0) (lv' := [(0, .ref h0)]) (st' := []) (ws' := [(h0, .inr (11, [.ref a1, .ref a2, .ref a3, .ref a4, .ref a5, .ref a6, .ref a7, .ref a8, .ref a9, .ref a10, .ref a11, .ref a12, .int 0, .int 0, .int 5])), (a2, .inr (4, [.ref a1, .null, .int 0])), (a1, .inr (9, [.ref t_bytes, .int 0, .int 0, .ref t_kinds, .ref t_places, .ref t_values])), (a12, .inr (6, [.ref w0, .int 0, .ref r_doors, .ref r_openingWalls, .ref r_froms, .ref r_tos, .ref r_lowers, .ref r_uppers, .int 0, .ref r_standWalls, .ref r_standXs, .ref r_standYs])), (w0, .inr (10, [.ref w_begins, .ref w_lengths, .ref w_lefts, .ref w_rights, .ref w_leans, .ref w_leaning, .int 0, .int 0])), (t_kinds, .inl (Z.2.1 0, 401, .inl f1)), (t_places, .inl (Z.2.1 0, 401, .inl f2)), (t_values, .inl (Z.2.1 0, 401, .inl f3))]) rfl rfl rfl rfl ?_
  refine g_aload_n (pc := 0) X 0 rfl dX11_fault_0 ?_
  refine g_get (pc := 1) X inlX11 0 rfl rfl 1 (by decide) mw_1_19 rfl dX11_fault_1 ?_
  refine g_aload_n (pc := 4) X 0 rfl dX11_fault_4 ?_
  refine g_get (pc := 5) X inlX11 0 rfl rfl 11 (by decide) mw_3_3 rfl dX11_fault_5 ?_
  refine g_callV (pc := 8) X (c_read l Z a2 a1 a12 t_bytes t_kinds t_places t_values f1 f2 f3 w0 r_doors r_openingWalls r_froms r_tos r_lowers r_uppers r_standWalls r_standXs r_standYs w_begins w_lengths w_lefts w_rights w_leans w_leaning) iM_X4_read mw_11_20 mw_11_21 mw_11_22 1 rfl rfl [1, 2, 3, 4, 5, 6, 7] [0] rfl (wr := [(h0, .inr (11, [.ref a1, .ref a2, .ref a3, .ref a4, .ref a5, .ref a6, .ref a7, .ref a8, .ref a9, .ref a10, .ref a11, .ref a12, .int 0, .int 0, .int 5]))]) rfl (by decide) rfl rfl (Nat.le_of_ble_eq_true rfl) (by decide) dX11_fault_8 (fun r w' hpo => ?_)
  obtain rfl := hpo
  refine g_left ?_
  refine g_as (pc' := 11) (lv' := [(0, .ref h0)]) (st' := [.int 0]) (ws' := [(h0, .inr (11, [.ref a1, .ref a2, .ref a3, .ref a4, .ref a5, .ref a6, .ref a7, .ref a8, .ref a9, .ref a10, .ref a11, .ref a12, .int 0, .int 0, .int 5]))]) rfl rfl rfl rfl ?_
  exact g_iret (pc := 11) X hA (rfl) (by decide) (by decide) dX11_fault_11

set_option maxHeartbeats 4000000 in
set_option maxRecDepth 100000 in
theorem c_room (l : Launch) (Z : gZ) (h0 : Nat) (a1 : Nat) (a2 : Nat) (a3 : Nat) (a4 : Nat) (a5 : Nat) (a6 : Nat) (a7 : Nat) (a8 : Nat) (a9 : Nat) (a10 : Nat) (a11 : Nat) (a12 : Nat) (t_bytes : Nat) (t_kinds : Nat) (t_places : Nat) (t_values : Nat) (f1 : Nat → Int32) (f2 : Nat → Int32) (f3 : Nat → Int32) (w0 : Nat) (r_doors : Nat) (r_openingWalls : Nat) (r_froms : Nat) (r_tos : Nat) (r_lowers : Nat) (r_uppers : Nat) (r_standWalls : Nat) (r_standXs : Nat) (r_standYs : Nat) (w_begins : Nat) (w_lengths : Nat) (w_lefts : Nat) (w_rights : Nat) (w_leans : Nat) (w_leaning : Nat) : Con l Z yX11_room cX11_room 1 (some .int) 3 67 0 0 [.ref h0] [(h0, .inr (11, [.ref a1, .ref a2, .ref a3, .ref a4, .ref a5, .ref a6, .ref a7, .ref a8, .ref a9, .ref a10, .ref a11, .ref a12, .int 0, .int 0, .int 5])), (a2, .inr (4, [.ref a1, .null, .int 0])), (a1, .inr (9, [.ref t_bytes, .int 0, .int 0, .ref t_kinds, .ref t_places, .ref t_values])), (a12, .inr (6, [.ref w0, .int 0, .ref r_doors, .ref r_openingWalls, .ref r_froms, .ref r_tos, .ref r_lowers, .ref r_uppers, .int 0, .ref r_standWalls, .ref r_standXs, .ref r_standYs])), (w0, .inr (10, [.ref w_begins, .ref w_lengths, .ref w_lefts, .ref w_rights, .ref w_leans, .ref w_leaning, .int 0, .int 0])), (t_kinds, .inl (Z.2.1 0, 401, .inl f1)), (t_places, .inl (Z.2.1 0, 401, .inl f2)), (t_values, .inl (Z.2.1 0, 401, .inl f3))] (fun r w' => r = some (.int (-1))) := by
  refine enter (by decide) (Nat.le_of_ble_eq_true rfl) ?_
  intro p e s m args below meth c A X hnm hA
  have X : Cx p s m args meth c cX11_room 1 (some .int) RX11 Z A := X
  refine g_as (pc' := 0) (lv' := [(0, .ref h0)]) (st' := []) (ws' := [(h0, .inr (11, [.ref a1, .ref a2, .ref a3, .ref a4, .ref a5, .ref a6, .ref a7, .ref a8, .ref a9, .ref a10, .ref a11, .ref a12, .int 0, .int 0, .int 5])), (a2, .inr (4, [.ref a1, .null, .int 0])), (a1, .inr (9, [.ref t_bytes, .int 0, .int 0, .ref t_kinds, .ref t_places, .ref t_values])), (a12, .inr (6, [.ref w0, .int 0, .ref r_doors, .ref r_openingWalls, .ref r_froms, .ref r_tos, .ref r_lowers, .ref r_uppers, .int 0, .ref r_standWalls, .ref r_standXs, .ref r_standYs])), (w0, .inr (10, [.ref w_begins, .ref w_lengths, .ref w_lefts, .ref w_rights, .ref w_leans, .ref w_leaning, .int 0, .int 0])), (t_kinds, .inl (Z.2.1 0, 401, .inl f1)), (t_places, .inl (Z.2.1 0, 401, .inl f2)), (t_values, .inl (Z.2.1 0, 401, .inl f3))]) rfl rfl rfl rfl ?_
  refine g_aload_n (pc := 0) X 0 rfl dX11_room_0 ?_
  refine g_get (pc := 1) X inlX11 0 rfl rfl 12 (by decide) mw_3_4 rfl dX11_room_1 ?_
  refine g_bipush (pc := 4) X 6 (by decide) dX11_room_4 ?_
  refine g_icmp_ge (pc := 6) X 24 (by decide) dX11_room_6 (fun h => absurd h (by decide)) (fun b6 => ?_)
  refine g_aload_n (pc := 9) X 0 rfl dX11_room_9 ?_
  refine g_get (pc := 10) X inlX11 0 rfl rfl 1 (by decide) mw_1_19 rfl dX11_room_10 ?_
  refine g_aload_n (pc := 13) X 0 rfl dX11_room_13 ?_
  refine g_get (pc := 14) X inlX11 0 rfl rfl 11 (by decide) mw_3_3 rfl dX11_room_14 ?_
  refine g_callV (pc := 17) X (c_read l Z a2 a1 a12 t_bytes t_kinds t_places t_values f1 f2 f3 w0 r_doors r_openingWalls r_froms r_tos r_lowers r_uppers r_standWalls r_standXs r_standYs w_begins w_lengths w_lefts w_rights w_leans w_leaning) iM_X4_read mw_11_20 mw_11_21 mw_11_22 1 rfl rfl [1, 2, 3, 4, 5, 6, 7] [0] rfl (wr := [(h0, .inr (11, [.ref a1, .ref a2, .ref a3, .ref a4, .ref a5, .ref a6, .ref a7, .ref a8, .ref a9, .ref a10, .ref a11, .ref a12, .int 0, .int 0, .int 5]))]) rfl (by decide) rfl rfl (Nat.le_of_ble_eq_true rfl) (by decide) dX11_room_17 (fun r w' hpo => ?_)
  obtain rfl := hpo
  refine g_left ?_
  refine g_as (pc' := 20) (lv' := [(0, .ref h0)]) (st' := [.int 0]) (ws' := [(h0, .inr (11, [.ref a1, .ref a2, .ref a3, .ref a4, .ref a5, .ref a6, .ref a7, .ref a8, .ref a9, .ref a10, .ref a11, .ref a12, .int 0, .int 0, .int 5]))]) rfl rfl rfl rfl ?_
  refine g_iconst (pc := 20) X (-1) (by decide) dX11_room_20 ?_
  refine g_icmp_eq (pc := 21) X 26 (by decide) dX11_room_21 (fun h => absurd h (by decide)) (fun b21 => ?_)
  refine g_iconst (pc := 24) X (-1) (by decide) dX11_room_24 ?_
  exact g_iret (pc := 25) X hA (rfl) (by decide) (by decide) dX11_room_25
