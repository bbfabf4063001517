set_option maxHeartbeats 4000000 in
set_option maxRecDepth 100000 in
theorem c_Text_init (l : Launch) (Z : gZ) (h0 : Nat) : Con l Z yX9_init cX9_init 1 none 1 20 4 1603 [.ref h0] [(h0, .inr (9, [.null, .int 0, .int 0, .null, .null, .null]))] (fun r w' => ∃ (q1 : Nat) (q2 : Nat) (q3 : Nat) (q4 : Nat), r = none ∧ w' = [(h0, .inr (9, [.ref q1, .int 0, .int 0, .ref q2, .ref q3, .ref q4])), (q1, .inl (Z.2.1 0, 400, .inl (fun _ => 0))), (q2, .inl (Z.2.1 0, 401, .inl (fun _ => 0))), (q3, .inl (Z.2.1 0, 401, .inl (fun _ => 0))), (q4, .inl (Z.2.1 0, 401, .inl (fun _ => 0)))]) := by
  refine enter (by decide) (Nat.le_of_ble_eq_true rfl) ?_
  intro p e s m args below meth c A X hnm hA
  have X : Cx p s m args meth c cX9_init 1 none RX9 Z A := X
  refine g_as (pc' := 0) (lv' := [(0, .ref h0)]) (st' := []) (ws' := [(h0, .inr (9, [.null, .int 0, .int 0, .null, .null, .null]))]) rfl rfl rfl rfl ?_
  refine g_aload_n (pc := 0) X 0 rfl dX9_init_0 ?_
  refine g_objInit (pc := 1) X mw_3_10 mw_1_10 mw_1_11 (by decide) (Nat.le_of_ble_eq_true rfl) dX9_init_1 ?_
  refine g_aload_n (pc := 4) X 0 rfl dX9_init_4 ?_
  refine g_sipush (pc := 5) X 400 (by decide) dX9_init_5 ?_
  refine g_newi (pc := 8) X 400 mw_3_11 (by decide) (by decide) (by decide) (by decide) (by decide) dX9_init_8 (fun q1 => ?_)
  refine g_as (pc' := 10) (lv' := [(0, .ref h0)]) (st' := [.ref q1, .ref h0]) (ws' := [(h0, .inr (9, [.null, .int 0, .int 0, .null, .null, .null])), (q1, .inl (Z.2.1 0, 400, .inl (fun _ => 0)))]) rfl rfl rfl rfl ?_
  refine g_putF (pc := 10) X hnm inlX9 tyX9_ok nmX9 0 rfl rfl 0 (by decide) mw_3_12 rfl rfl rfl rfl (Nat.le_of_ble_eq_true rfl) (ws' := [(h0, .inr (9, [.ref q1, .int 0, .int 0, .null, .null, .null])), (q1, .inl (Z.2.1 0, 400, .inl (fun _ => 0)))]) rfl dX9_init_10 ?_
  refine g_aload_n (pc := 13) X 0 rfl dX9_init_13 ?_
  refine g_sipush (pc := 14) X 401 (by decide) dX9_init_14 ?_
  refine g_newi (pc := 17) X 401 mw_3_11 (by decide) (by decide) (by decide) (by decide) (by decide) dX9_init_17 (fun q2 => ?_)
  refine g_as (pc' := 19) (lv' := [(0, .ref h0)]) (st' := [.ref q2, .ref h0]) (ws' := [(h0, .inr (9, [.ref q1, .int 0, .int 0, .null, .null, .null])), (q1, .inl (Z.2.1 0, 400, .inl (fun _ => 0))), (q2, .inl (Z.2.1 0, 401, .inl (fun _ => 0)))]) rfl rfl rfl rfl ?_
  refine g_putF (pc := 19) X hnm inlX9 tyX9_ok nmX9 0 rfl rfl 3 (by decide) mw_3_13 rfl rfl rfl rfl (Nat.le_of_ble_eq_true rfl) (ws' := [(h0, .inr (9, [.ref q1, .int 0, .int 0, .ref q2, .null, .null])), (q1, .inl (Z.2.1 0, 400, .inl (fun _ => 0))), (q2, .inl (Z.2.1 0, 401, .inl (fun _ => 0)))]) rfl dX9_init_19 ?_
  refine g_aload_n (pc := 22) X 0 rfl dX9_init_22 ?_
  refine g_sipush (pc := 23) X 401 (by decide) dX9_init_23 ?_
  refine g_newi (pc := 26) X 401 mw_3_11 (by decide) (by decide) (by decide) (by decide) (by decide) dX9_init_26 (fun q3 => ?_)
  refine g_as (pc' := 28) (lv' := [(0, .ref h0)]) (st' := [.ref q3, .ref h0]) (ws' := [(h0, .inr (9, [.ref q1, .int 0, .int 0, .ref q2, .null, .null])), (q1, .inl (Z.2.1 0, 400, .inl (fun _ => 0))), (q2, .inl (Z.2.1 0, 401, .inl (fun _ => 0))), (q3, .inl (Z.2.1 0, 401, .inl (fun _ => 0)))]) rfl rfl rfl rfl ?_
  refine g_putF (pc := 28) X hnm inlX9 tyX9_ok nmX9 0 rfl rfl 4 (by decide) mw_3_14 rfl rfl rfl rfl (Nat.le_of_ble_eq_true rfl) (ws' := [(h0, .inr (9, [.ref q1, .int 0, .int 0, .ref q2, .ref q3, .null])), (q1, .inl (Z.2.1 0, 400, .inl (fun _ => 0))), (q2, .inl (Z.2.1 0, 401, .inl (fun _ => 0))), (q3, .inl (Z.2.1 0, 401, .inl (fun _ => 0)))]) rfl dX9_init_28 ?_
  refine g_aload_n (pc := 31) X 0 rfl dX9_init_31 ?_
  refine g_sipush (pc := 32) X 401 (by decide) dX9_init_32 ?_
  refine g_newi (pc := 35) X 401 mw_3_11 (by decide) (by decide) (by decide) (by decide) (by decide) dX9_init_35 (fun q4 => ?_)
  refine g_as (pc' := 37) (lv' := [(0, .ref h0)]) (st' := [.ref q4, .ref h0]) (ws' := [(h0, .inr (9, [.ref q1, .int 0, .int 0, .ref q2, .ref q3, .null])), (q1, .inl (Z.2.1 0, 400, .inl (fun _ => 0))), (q2, .inl (Z.2.1 0, 401, .inl (fun _ => 0))), (q3, .inl (Z.2.1 0, 401, .inl (fun _ => 0))), (q4, .inl (Z.2.1 0, 401, .inl (fun _ => 0)))]) rfl rfl rfl rfl ?_
  refine g_putF (pc := 37) X hnm inlX9 tyX9_ok nmX9 0 rfl rfl 5 (by decide) mw_3_15 rfl rfl rfl rfl (Nat.le_of_ble_eq_true rfl) (ws' := [(h0, .inr (9, [.ref q1, .int 0, .int 0, .ref q2, .ref q3, .ref q4])), (q1, .inl (Z.2.1 0, 400, .inl (fun _ => 0))), (q2, .inl (Z.2.1 0, 401, .inl (fun _ => 0))), (q3, .inl (Z.2.1 0, 401, .inl (fun _ => 0))), (q4, .inl (Z.2.1 0, 401, .inl (fun _ => 0)))]) rfl dX9_init_37 ?_
  exact g_vret (pc := 40) X hA (⟨q1, q2, q3, q4, rfl, rfl⟩) (by decide) (by decide) dX9_init_40

set_option maxHeartbeats 4000000 in
set_option maxRecDepth 100000 in
theorem c_Reader_init (l : Launch) (Z : gZ) (h0 : Nat) (t0 : Nat) : Con l Z yX4_init cX4_init 2 none 1 20 0 0 [.ref h0, .ref t0] [(h0, .inr (4, [.null, .null, .int 0]))] (fun r w' => r = none ∧ w' = [(h0, .inr (4, [.ref t0, .null, .int 0]))]) := by
  refine enter (by decide) (Nat.le_of_ble_eq_true rfl) ?_
  intro p e s m args below meth c A X hnm hA
  have X : Cx p s m args meth c cX4_init 2 none RX4 Z A := X
  refine g_as (pc' := 0) (lv' := [(0, .ref h0), (1, .ref t0)]) (st' := []) (ws' := [(h0, .inr (4, [.null, .null, .int 0]))]) rfl rfl rfl rfl ?_
  refine g_aload_n (pc := 0) X 0 rfl dX4_init_0 ?_
  refine g_objInit (pc := 1) X mw_3_19 mw_1_10 mw_1_11 (by decide) (Nat.le_of_ble_eq_true rfl) dX4_init_1 ?_
  refine g_aload_n (pc := 4) X 0 rfl dX4_init_4 ?_
  refine g_aload_n (pc := 5) X 1 rfl dX4_init_5 ?_
  refine g_putF (pc := 6) X hnm inlX4 tyX4_ok nmX4 0 rfl rfl 0 (by decide) mw_3_20 rfl rfl rfl rfl (Nat.le_of_ble_eq_true rfl) (ws' := [(h0, .inr (4, [.ref t0, .null, .int 0]))]) rfl dX4_init_6 ?_
  exact g_vret (pc := 9) X hA (⟨rfl, rfl⟩) (by decide) (by decide) dX4_init_9

set_option maxHeartbeats 4000000 in
set_option maxRecDepth 100000 in
theorem c_State_init (l : Launch) (Z : gZ) (h0 : Nat) : Con l Z yX8_init cX8_init 2 none 1 20 7 54 [.ref h0] [(h0, .inr (8, [.null, .null, .null, .null, .int 0, .null, .null, .null]))] (fun r w' => ∃ (q1 : Nat) (q2 : Nat) (q3 : Nat) (q4 : Nat) (q5 : Nat) (q6 : Nat) (q7 : Nat) (f13 : Nat → Int32), r = none ∧ w' = [(h0, .inr (8, [.ref q1, .ref q2, .ref q3, .ref q4, .int 0, .ref q5, .ref q6, .ref q7])), (q1, .inl (Z.2.1 0, 6, .inl f13)), (q2, .inl (Z.2.1 0, 6, .inl (fun _ => 0))), (q3, .inl (Z.2.1 0, 6, .inl (fun _ => 0))), (q4, .inl (Z.2.1 0, 6, .inl (fun _ => 0))), (q5, .inl (Z.2.1 0, 10, .inl (fun _ => 0))), (q6, .inl (Z.2.1 0, 10, .inl (fun _ => 0))), (q7, .inl (Z.2.1 0, 10, .inl (fun _ => 0)))]) := by
  refine enter (by decide) (Nat.le_of_ble_eq_true rfl) ?_
  intro p e s m args below meth c A X hnm hA
  have X : Cx p s m args meth c cX8_init 2 none RX8 Z A := X
  refine g_as (pc' := 0) (lv' := [(0, .ref h0)]) (st' := []) (ws' := [(h0, .inr (8, [.null, .null, .null, .null, .int 0, .null, .null, .null]))]) rfl rfl rfl rfl ?_
  refine g_aload_n (pc := 0) X 0 rfl dX8_init_0 ?_
  refine g_objInit (pc := 1) X mw_4_0 mw_1_10 mw_1_11 (by decide) (Nat.le_of_ble_eq_true rfl) dX8_init_1 ?_
  refine g_aload_n (pc := 4) X 0 rfl dX8_init_4 ?_
  refine g_bipush (pc := 5) X 6 (by decide) dX8_init_5 ?_
  refine g_newi (pc := 7) X 6 mw_3_11 (by decide) (by decide) (by decide) (by decide) (by decide) dX8_init_7 (fun q1 => ?_)
  refine g_as (pc' := 9) (lv' := [(0, .ref h0)]) (st' := [.ref q1, .ref h0]) (ws' := [(h0, .inr (8, [.null, .null, .null, .null, .int 0, .null, .null, .null])), (q1, .inl (Z.2.1 0, 6, .inl (fun _ => 0)))]) rfl rfl rfl rfl ?_
  refine g_putF (pc := 9) X hnm inlX8 tyX8_ok nmX8 0 rfl rfl 0 (by decide) mw_4_1 rfl rfl rfl rfl (Nat.le_of_ble_eq_true rfl) (ws' := [(h0, .inr (8, [.ref q1, .null, .null, .null, .int 0, .null, .null, .null])), (q1, .inl (Z.2.1 0, 6, .inl (fun _ => 0)))]) rfl dX8_init_9 ?_
  refine g_aload_n (pc := 12) X 0 rfl dX8_init_12 ?_
  refine g_bipush (pc := 13) X 6 (by decide) dX8_init_13 ?_
  refine g_newi (pc := 15) X 6 mw_3_11 (by decide) (by decide) (by decide) (by decide) (by decide) dX8_init_15 (fun q2 => ?_)
  refine g_as (pc' := 17) (lv' := [(0, .ref h0)]) (st' := [.ref q2, .ref h0]) (ws' := [(h0, .inr (8, [.ref q1, .null, .null, .null, .int 0, .null, .null, .null])), (q1, .inl (Z.2.1 0, 6, .inl (fun _ => 0))), (q2, .inl (Z.2.1 0, 6, .inl (fun _ => 0)))]) rfl rfl rfl rfl ?_
  refine g_putF (pc := 17) X hnm inlX8 tyX8_ok nmX8 0 rfl rfl 1 (by decide) mw_4_2 rfl rfl rfl rfl (Nat.le_of_ble_eq_true rfl) (ws' := [(h0, .inr (8, [.ref q1, .ref q2, .null, .null, .int 0, .null, .null, .null])), (q1, .inl (Z.2.1 0, 6, .inl (fun _ => 0))), (q2, .inl (Z.2.1 0, 6, .inl (fun _ => 0)))]) rfl dX8_init_17 ?_
  refine g_aload_n (pc := 20) X 0 rfl dX8_init_20 ?_
  refine g_bipush (pc := 21) X 6 (by decide) dX8_init_21 ?_
  refine g_newi (pc := 23) X 6 mw_3_11 (by decide) (by decide) (by decide) (by decide) (by decide) dX8_init_23 (fun q3 => ?_)
  refine g_as (pc' := 25) (lv' := [(0, .ref h0)]) (st' := [.ref q3, .ref h0]) (ws' := [(h0, .inr (8, [.ref q1, .ref q2, .null, .null, .int 0, .null, .null, .null])), (q1, .inl (Z.2.1 0, 6, .inl (fun _ => 0))), (q2, .inl (Z.2.1 0, 6, .inl (fun _ => 0))), (q3, .inl (Z.2.1 0, 6, .inl (fun _ => 0)))]) rfl rfl rfl rfl ?_
  refine g_putF (pc := 25) X hnm inlX8 tyX8_ok nmX8 0 rfl rfl 2 (by decide) mw_4_3 rfl rfl rfl rfl (Nat.le_of_ble_eq_true rfl) (ws' := [(h0, .inr (8, [.ref q1, .ref q2, .ref q3, .null, .int 0, .null, .null, .null])), (q1, .inl (Z.2.1 0, 6, .inl (fun _ => 0))), (q2, .inl (Z.2.1 0, 6, .inl (fun _ => 0))), (q3, .inl (Z.2.1 0, 6, .inl (fun _ => 0)))]) rfl dX8_init_25 ?_
  refine g_aload_n (pc := 28) X 0 rfl dX8_init_28 ?_
  refine g_bipush (pc := 29) X 6 (by decide) dX8_init_29 ?_
  refine g_newi (pc := 31) X 6 mw_3_11 (by decide) (by decide) (by decide) (by decide) (by decide) dX8_init_31 (fun q4 => ?_)
  refine g_as (pc' := 33) (lv' := [(0, .ref h0)]) (st' := [.ref q4, .ref h0]) (ws' := [(h0, .inr (8, [.ref q1, .ref q2, .ref q3, .null, .int 0, .null, .null, .null])), (q1, .inl (Z.2.1 0, 6, .inl (fun _ => 0))), (q2, .inl (Z.2.1 0, 6, .inl (fun _ => 0))), (q3, .inl (Z.2.1 0, 6, .inl (fun _ => 0))), (q4, .inl (Z.2.1 0, 6, .inl (fun _ => 0)))]) rfl rfl rfl rfl ?_
  refine g_putF (pc := 33) X hnm inlX8 tyX8_ok nmX8 0 rfl rfl 3 (by decide) mw_4_4 rfl rfl rfl rfl (Nat.le_of_ble_eq_true rfl) (ws' := [(h0, .inr (8, [.ref q1, .ref q2, .ref q3, .ref q4, .int 0, .null, .null, .null])), (q1, .inl (Z.2.1 0, 6, .inl (fun _ => 0))), (q2, .inl (Z.2.1 0, 6, .inl (fun _ => 0))), (q3, .inl (Z.2.1 0, 6, .inl (fun _ => 0))), (q4, .inl (Z.2.1 0, 6, .inl (fun _ => 0)))]) rfl dX8_init_33 ?_
  refine g_aload_n (pc := 36) X 0 rfl dX8_init_36 ?_
  refine g_bipush (pc := 37) X 10 (by decide) dX8_init_37 ?_
  refine g_newi (pc := 39) X 10 mw_3_11 (by decide) (by decide) (by decide) (by decide) (by decide) dX8_init_39 (fun q5 => ?_)
  refine g_as (pc' := 41) (lv' := [(0, .ref h0)]) (st' := [.ref q5, .ref h0]) (ws' := [(h0, .inr (8, [.ref q1, .ref q2, .ref q3, .ref q4, .int 0, .null, .null, .null])), (q1, .inl (Z.2.1 0, 6, .inl (fun _ => 0))), (q2, .inl (Z.2.1 0, 6, .inl (fun _ => 0))), (q3, .inl (Z.2.1 0, 6, .inl (fun _ => 0))), (q4, .inl (Z.2.1 0, 6, .inl (fun _ => 0))), (q5, .inl (Z.2.1 0, 10, .inl (fun _ => 0)))]) rfl rfl rfl rfl ?_
  refine g_putF (pc := 41) X hnm inlX8 tyX8_ok nmX8 0 rfl rfl 5 (by decide) mw_4_5 rfl rfl rfl rfl (Nat.le_of_ble_eq_true rfl) (ws' := [(h0, .inr (8, [.ref q1, .ref q2, .ref q3, .ref q4, .int 0, .ref q5, .null, .null])), (q1, .inl (Z.2.1 0, 6, .inl (fun _ => 0))), (q2, .inl (Z.2.1 0, 6, .inl (fun _ => 0))), (q3, .inl (Z.2.1 0, 6, .inl (fun _ => 0))), (q4, .inl (Z.2.1 0, 6, .inl (fun _ => 0))), (q5, .inl (Z.2.1 0, 10, .inl (fun _ => 0)))]) rfl dX8_init_41 ?_
  refine g_aload_n (pc := 44) X 0 rfl dX8_init_44 ?_
  refine g_bipush (pc := 45) X 10 (by decide) dX8_init_45 ?_
  refine g_newi (pc := 47) X 10 mw_3_11 (by decide) (by decide) (by decide) (by decide) (by decide) dX8_init_47 (fun q6 => ?_)
  refine g_as (pc' := 49) (lv' := [(0, .ref h0)]) (st' := [.ref q6, .ref h0]) (ws' := [(h0, .inr (8, [.ref q1, .ref q2, .ref q3, .ref q4, .int 0, .ref q5, .null, .null])), (q1, .inl (Z.2.1 0, 6, .inl (fun _ => 0))), (q2, .inl (Z.2.1 0, 6, .inl (fun _ => 0))), (q3, .inl (Z.2.1 0, 6, .inl (fun _ => 0))), (q4, .inl (Z.2.1 0, 6, .inl (fun _ => 0))), (q5, .inl (Z.2.1 0, 10, .inl (fun _ => 0))), (q6, .inl (Z.2.1 0, 10, .inl (fun _ => 0)))]) rfl rfl rfl rfl ?_
  refine g_putF (pc := 49) X hnm inlX8 tyX8_ok nmX8 0 rfl rfl 6 (by decide) mw_4_6 rfl rfl rfl rfl (Nat.le_of_ble_eq_true rfl) (ws' := [(h0, .inr (8, [.ref q1, .ref q2, .ref q3, .ref q4, .int 0, .ref q5, .ref q6, .null])), (q1, .inl (Z.2.1 0, 6, .inl (fun _ => 0))), (q2, .inl (Z.2.1 0, 6, .inl (fun _ => 0))), (q3, .inl (Z.2.1 0, 6, .inl (fun _ => 0))), (q4, .inl (Z.2.1 0, 6, .inl (fun _ => 0))), (q5, .inl (Z.2.1 0, 10, .inl (fun _ => 0))), (q6, .inl (Z.2.1 0, 10, .inl (fun _ => 0)))]) rfl dX8_init_49 ?_
  refine g_aload_n (pc := 52) X 0 rfl dX8_init_52 ?_
  refine g_bipush (pc := 53) X 10 (by decide) dX8_init_53 ?_
  refine g_newi (pc := 55) X 10 mw_3_11 (by decide) (by decide) (by decide) (by decide) (by decide) dX8_init_55 (fun q7 => ?_)
  refine g_as (pc' := 57) (lv' := [(0, .ref h0)]) (st' := [.ref q7, .ref h0]) (ws' := [(h0, .inr (8, [.ref q1, .ref q2, .ref q3, .ref q4, .int 0, .ref q5, .ref q6, .null])), (q1, .inl (Z.2.1 0, 6, .inl (fun _ => 0))), (q2, .inl (Z.2.1 0, 6, .inl (fun _ => 0))), (q3, .inl (Z.2.1 0, 6, .inl (fun _ => 0))), (q4, .inl (Z.2.1 0, 6, .inl (fun _ => 0))), (q5, .inl (Z.2.1 0, 10, .inl (fun _ => 0))), (q6, .inl (Z.2.1 0, 10, .inl (fun _ => 0))), (q7, .inl (Z.2.1 0, 10, .inl (fun _ => 0)))]) rfl rfl rfl rfl ?_
  refine g_putF (pc := 57) X hnm inlX8 tyX8_ok nmX8 0 rfl rfl 7 (by decide) mw_4_7 rfl rfl rfl rfl (Nat.le_of_ble_eq_true rfl) (ws' := [(h0, .inr (8, [.ref q1, .ref q2, .ref q3, .ref q4, .int 0, .ref q5, .ref q6, .ref q7])), (q1, .inl (Z.2.1 0, 6, .inl (fun _ => 0))), (q2, .inl (Z.2.1 0, 6, .inl (fun _ => 0))), (q3, .inl (Z.2.1 0, 6, .inl (fun _ => 0))), (q4, .inl (Z.2.1 0, 6, .inl (fun _ => 0))), (q5, .inl (Z.2.1 0, 10, .inl (fun _ => 0))), (q6, .inl (Z.2.1 0, 10, .inl (fun _ => 0))), (q7, .inl (Z.2.1 0, 10, .inl (fun _ => 0)))]) rfl dX8_init_57 ?_
  refine g_iconst (pc := 60) X 0 (by decide) dX8_init_60 ?_
  refine g_istore_n (pc := 61) X (i := 1) rfl (by decide) (lv' := [(1, .int 0), (0, .ref h0)]) rfl dX8_init_61 ?_
  refine g_iload_n (pc := 62) X 0 rfl dX8_init_62 ?_
  refine g_bipush (pc := 63) X 6 (by decide) dX8_init_63 ?_
  refine g_icmp_ge (pc := 65) X 81 (by decide) dX8_init_65 (fun h => absurd h (by decide)) (fun b65 => ?_)
  refine g_aload_n (pc := 68) X 1 rfl dX8_init_68 ?_
  refine g_get (pc := 69) X inlX8 0 rfl rfl 0 (by decide) mw_4_1 rfl dX8_init_69 ?_
  refine g_iload_n (pc := 72) X 0 rfl dX8_init_72 ?_
  refine g_iconst (pc := 73) X (-1) (by decide) dX8_init_73 ?_
  refine g_iastF (pc := 74) X 1 rfl (vp_in_iff.mpr (by decide)) (ws' := fun f8 => [(h0, .inr (8, [.ref q1, .ref q2, .ref q3, .ref q4, .int 0, .ref q5, .ref q6, .ref q7])), (q1, .inl (Z.2.1 0, 6, .inl f8)), (q2, .inl (Z.2.1 0, 6, .inl (fun _ => 0))), (q3, .inl (Z.2.1 0, 6, .inl (fun _ => 0))), (q4, .inl (Z.2.1 0, 6, .inl (fun _ => 0))), (q5, .inl (Z.2.1 0, 10, .inl (fun _ => 0))), (q6, .inl (Z.2.1 0, 10, .inl (fun _ => 0))), (q7, .inl (Z.2.1 0, 10, .inl (fun _ => 0)))]) (fun _ => rfl) dX8_init_74 (fun f8 => ?_)
  refine g_iinc (pc := 75) X 0 rfl (v := 1) (by decide) (by decide) (lv' := [(1, .int 1), (0, .ref h0)]) rfl dX8_init_75 ?_
  refine g_goto (pc := 78) X 62 (by decide) dX8_init_78 ?_
  refine g_iload_n (pc := 62) X 0 rfl dX8_init_62 ?_
  refine g_bipush (pc := 63) X 6 (by decide) dX8_init_63 ?_
  refine g_icmp_ge (pc := 65) X 81 (by decide) dX8_init_65 (fun h => absurd h (by decide)) (fun b65 => ?_)
  refine g_aload_n (pc := 68) X 1 rfl dX8_init_68 ?_
  refine g_get (pc := 69) X inlX8 0 rfl rfl 0 (by decide) mw_4_1 rfl dX8_init_69 ?_
  refine g_iload_n (pc := 72) X 0 rfl dX8_init_72 ?_
  refine g_iconst (pc := 73) X (-1) (by decide) dX8_init_73 ?_
  refine g_iastF (pc := 74) X 1 rfl (vp_in_iff.mpr (by decide)) (ws' := fun f9 => [(h0, .inr (8, [.ref q1, .ref q2, .ref q3, .ref q4, .int 0, .ref q5, .ref q6, .ref q7])), (q1, .inl (Z.2.1 0, 6, .inl f9)), (q2, .inl (Z.2.1 0, 6, .inl (fun _ => 0))), (q3, .inl (Z.2.1 0, 6, .inl (fun _ => 0))), (q4, .inl (Z.2.1 0, 6, .inl (fun _ => 0))), (q5, .inl (Z.2.1 0, 10, .inl (fun _ => 0))), (q6, .inl (Z.2.1 0, 10, .inl (fun _ => 0))), (q7, .inl (Z.2.1 0, 10, .inl (fun _ => 0)))]) (fun _ => rfl) dX8_init_74 (fun f9 => ?_)
  refine g_iinc (pc := 75) X 0 rfl (v := 2) (by decide) (by decide) (lv' := [(1, .int 2), (0, .ref h0)]) rfl dX8_init_75 ?_
  refine g_goto (pc := 78) X 62 (by decide) dX8_init_78 ?_
  refine g_iload_n (pc := 62) X 0 rfl dX8_init_62 ?_
  refine g_bipush (pc := 63) X 6 (by decide) dX8_init_63 ?_
  refine g_icmp_ge (pc := 65) X 81 (by decide) dX8_init_65 (fun h => absurd h (by decide)) (fun b65 => ?_)
  refine g_aload_n (pc := 68) X 1 rfl dX8_init_68 ?_
  refine g_get (pc := 69) X inlX8 0 rfl rfl 0 (by decide) mw_4_1 rfl dX8_init_69 ?_
  refine g_iload_n (pc := 72) X 0 rfl dX8_init_72 ?_
  refine g_iconst (pc := 73) X (-1) (by decide) dX8_init_73 ?_
  refine g_iastF (pc := 74) X 1 rfl (vp_in_iff.mpr (by decide)) (ws' := fun f10 => [(h0, .inr (8, [.ref q1, .ref q2, .ref q3, .ref q4, .int 0, .ref q5, .ref q6, .ref q7])), (q1, .inl (Z.2.1 0, 6, .inl f10)), (q2, .inl (Z.2.1 0, 6, .inl (fun _ => 0))), (q3, .inl (Z.2.1 0, 6, .inl (fun _ => 0))), (q4, .inl (Z.2.1 0, 6, .inl (fun _ => 0))), (q5, .inl (Z.2.1 0, 10, .inl (fun _ => 0))), (q6, .inl (Z.2.1 0, 10, .inl (fun _ => 0))), (q7, .inl (Z.2.1 0, 10, .inl (fun _ => 0)))]) (fun _ => rfl) dX8_init_74 (fun f10 => ?_)
  refine g_iinc (pc := 75) X 0 rfl (v := 3) (by decide) (by decide) (lv' := [(1, .int 3), (0, .ref h0)]) rfl dX8_init_75 ?_
  refine g_goto (pc := 78) X 62 (by decide) dX8_init_78 ?_
  refine g_iload_n (pc := 62) X 0 rfl dX8_init_62 ?_
  refine g_bipush (pc := 63) X 6 (by decide) dX8_init_63 ?_
  refine g_icmp_ge (pc := 65) X 81 (by decide) dX8_init_65 (fun h => absurd h (by decide)) (fun b65 => ?_)
  refine g_aload_n (pc := 68) X 1 rfl dX8_init_68 ?_
  refine g_get (pc := 69) X inlX8 0 rfl rfl 0 (by decide) mw_4_1 rfl dX8_init_69 ?_
  refine g_iload_n (pc := 72) X 0 rfl dX8_init_72 ?_
  refine g_iconst (pc := 73) X (-1) (by decide) dX8_init_73 ?_
  refine g_iastF (pc := 74) X 1 rfl (vp_in_iff.mpr (by decide)) (ws' := fun f11 => [(h0, .inr (8, [.ref q1, .ref q2, .ref q3, .ref q4, .int 0, .ref q5, .ref q6, .ref q7])), (q1, .inl (Z.2.1 0, 6, .inl f11)), (q2, .inl (Z.2.1 0, 6, .inl (fun _ => 0))), (q3, .inl (Z.2.1 0, 6, .inl (fun _ => 0))), (q4, .inl (Z.2.1 0, 6, .inl (fun _ => 0))), (q5, .inl (Z.2.1 0, 10, .inl (fun _ => 0))), (q6, .inl (Z.2.1 0, 10, .inl (fun _ => 0))), (q7, .inl (Z.2.1 0, 10, .inl (fun _ => 0)))]) (fun _ => rfl) dX8_init_74 (fun f11 => ?_)
  refine g_iinc (pc := 75) X 0 rfl (v := 4) (by decide) (by decide) (lv' := [(1, .int 4), (0, .ref h0)]) rfl dX8_init_75 ?_
  refine g_goto (pc := 78) X 62 (by decide) dX8_init_78 ?_
  refine g_iload_n (pc := 62) X 0 rfl dX8_init_62 ?_
  refine g_bipush (pc := 63) X 6 (by decide) dX8_init_63 ?_
  refine g_icmp_ge (pc := 65) X 81 (by decide) dX8_init_65 (fun h => absurd h (by decide)) (fun b65 => ?_)
  refine g_aload_n (pc := 68) X 1 rfl dX8_init_68 ?_
  refine g_get (pc := 69) X inlX8 0 rfl rfl 0 (by decide) mw_4_1 rfl dX8_init_69 ?_
  refine g_iload_n (pc := 72) X 0 rfl dX8_init_72 ?_
  refine g_iconst (pc := 73) X (-1) (by decide) dX8_init_73 ?_
  refine g_iastF (pc := 74) X 1 rfl (vp_in_iff.mpr (by decide)) (ws' := fun f12 => [(h0, .inr (8, [.ref q1, .ref q2, .ref q3, .ref q4, .int 0, .ref q5, .ref q6, .ref q7])), (q1, .inl (Z.2.1 0, 6, .inl f12)), (q2, .inl (Z.2.1 0, 6, .inl (fun _ => 0))), (q3, .inl (Z.2.1 0, 6, .inl (fun _ => 0))), (q4, .inl (Z.2.1 0, 6, .inl (fun _ => 0))), (q5, .inl (Z.2.1 0, 10, .inl (fun _ => 0))), (q6, .inl (Z.2.1 0, 10, .inl (fun _ => 0))), (q7, .inl (Z.2.1 0, 10, .inl (fun _ => 0)))]) (fun _ => rfl) dX8_init_74 (fun f12 => ?_)
  refine g_iinc (pc := 75) X 0 rfl (v := 5) (by decide) (by decide) (lv' := [(1, .int 5), (0, .ref h0)]) rfl dX8_init_75 ?_
  refine g_goto (pc := 78) X 62 (by decide) dX8_init_78 ?_
  refine g_iload_n (pc := 62) X 0 rfl dX8_init_62 ?_
  refine g_bipush (pc := 63) X 6 (by decide) dX8_init_63 ?_
  refine g_icmp_ge (pc := 65) X 81 (by decide) dX8_init_65 (fun h => absurd h (by decide)) (fun b65 => ?_)
  refine g_aload_n (pc := 68) X 1 rfl dX8_init_68 ?_
  refine g_get (pc := 69) X inlX8 0 rfl rfl 0 (by decide) mw_4_1 rfl dX8_init_69 ?_
  refine g_iload_n (pc := 72) X 0 rfl dX8_init_72 ?_
  refine g_iconst (pc := 73) X (-1) (by decide) dX8_init_73 ?_
  refine g_iastF (pc := 74) X 1 rfl (vp_in_iff.mpr (by decide)) (ws' := fun f13 => [(h0, .inr (8, [.ref q1, .ref q2, .ref q3, .ref q4, .int 0, .ref q5, .ref q6, .ref q7])), (q1, .inl (Z.2.1 0, 6, .inl f13)), (q2, .inl (Z.2.1 0, 6, .inl (fun _ => 0))), (q3, .inl (Z.2.1 0, 6, .inl (fun _ => 0))), (q4, .inl (Z.2.1 0, 6, .inl (fun _ => 0))), (q5, .inl (Z.2.1 0, 10, .inl (fun _ => 0))), (q6, .inl (Z.2.1 0, 10, .inl (fun _ => 0))), (q7, .inl (Z.2.1 0, 10, .inl (fun _ => 0)))]) (fun _ => rfl) dX8_init_74 (fun f13 => ?_)
  refine g_iinc (pc := 75) X 0 rfl (v := 6) (by decide) (by decide) (lv' := [(1, .int 6), (0, .ref h0)]) rfl dX8_init_75 ?_
  refine g_goto (pc := 78) X 62 (by decide) dX8_init_78 ?_
  refine g_iload_n (pc := 62) X 0 rfl dX8_init_62 ?_
  refine g_bipush (pc := 63) X 6 (by decide) dX8_init_63 ?_
  refine g_icmp_ge (pc := 65) X 81 (by decide) dX8_init_65 (fun b65 => ?_) (fun h => absurd (by decide) h)
  exact g_vret (pc := 81) X hA (⟨q1, q2, q3, q4, q5, q6, q7, f13, rfl, rfl⟩) (by decide) (by decide) dX8_init_81

set_option maxHeartbeats 4000000 in
set_option maxRecDepth 100000 in
theorem c_Layout_init (l : Launch) (Z : gZ) (h0 : Nat) : Con l Z yX2_init cX2_init 1 none 1 20 9 3841 [.ref h0] [(h0, .inr (2, [.null, .null, .int 0, .int 0, .int 0, .int 0, .null, .null, .int 0, .null, .null, .null, .null, .null, .null, .null]))] (fun r w' => r = none) := by
  refine enter (by decide) (Nat.le_of_ble_eq_true rfl) ?_
  intro p e s m args below meth c A X hnm hA
  have X : Cx p s m args meth c cX2_init 1 none RX2 Z A := X
  refine g_as (pc' := 0) (lv' := [(0, .ref h0)]) (st' := []) (ws' := [(h0, .inr (2, [.null, .null, .int 0, .int 0, .int 0, .int 0, .null, .null, .int 0, .null, .null, .null, .null, .null, .null, .null]))]) rfl rfl rfl rfl ?_
  refine g_aload_n (pc := 0) X 0 rfl dX2_init_0 ?_
  refine g_objInit (pc := 1) X mw_4_11 mw_1_10 mw_1_11 (by decide) (Nat.le_of_ble_eq_true rfl) dX2_init_1 ?_
  refine g_aload_n (pc := 4) X 0 rfl dX2_init_4 ?_
  refine g_sipush (pc := 5) X 240 (by decide) dX2_init_5 ?_
  refine g_newi (pc := 8) X 240 mw_3_11 (by decide) (by decide) (by decide) (by decide) (by decide) dX2_init_8 (fun q1 => ?_)
  refine g_as (pc' := 10) (lv' := [(0, .ref h0)]) (st' := [.ref q1, .ref h0]) (ws' := [(h0, .inr (2, [.null, .null, .int 0, .int 0, .int 0, .int 0, .null, .null, .int 0, .null, .null, .null, .null, .null, .null, .null])), (q1, .inl (Z.2.1 0, 240, .inl (fun _ => 0)))]) rfl rfl rfl rfl ?_
  refine g_putF (pc := 10) X hnm inlX2 tyX2_ok nmX2 0 rfl rfl 6 (by decide) mw_4_12 rfl rfl rfl rfl (Nat.le_of_ble_eq_true rfl) (ws' := [(h0, .inr (2, [.null, .null, .int 0, .int 0, .int 0, .int 0, .ref q1, .null, .int 0, .null, .null, .null, .null, .null, .null, .null])), (q1, .inl (Z.2.1 0, 240, .inl (fun _ => 0)))]) rfl dX2_init_10 ?_
  refine g_ws (ws' := [(h0, .inr (2, [.null, .null, .int 0, .int 0, .int 0, .int 0, .ref q1, .null, .int 0, .null, .null, .null, .null, .null, .null, .null]))]) [0] (by decide) rfl ?_
  refine g_aload_n (pc := 13) X 0 rfl dX2_init_13 ?_
  refine g_sipush (pc := 14) X 241 (by decide) dX2_init_14 ?_
  refine g_newi (pc := 17) X 241 mw_3_11 (by decide) (by decide) (by decide) (by decide) (by decide) dX2_init_17 (fun q2 => ?_)
  refine g_as (pc' := 19) (lv' := [(0, .ref h0)]) (st' := [.ref q2, .ref h0]) (ws' := [(h0, .inr (2, [.null, .null, .int 0, .int 0, .int 0, .int 0, .ref q1, .null, .int 0, .null, .null, .null, .null, .null, .null, .null])), (q2, .inl (Z.2.1 0, 241, .inl (fun _ => 0)))]) rfl rfl rfl rfl ?_
  refine g_putF (pc := 19) X hnm inlX2 tyX2_ok nmX2 0 rfl rfl 7 (by decide) mw_4_13 rfl rfl rfl rfl (Nat.le_of_ble_eq_true rfl) (ws' := [(h0, .inr (2, [.null, .null, .int 0, .int 0, .int 0, .int 0, .ref q1, .ref q2, .int 0, .null, .null, .null, .null, .null, .null, .null])), (q2, .inl (Z.2.1 0, 241, .inl (fun _ => 0)))]) rfl dX2_init_19 ?_
  refine g_ws (ws' := [(h0, .inr (2, [.null, .null, .int 0, .int 0, .int 0, .int 0, .ref q1, .ref q2, .int 0, .null, .null, .null, .null, .null, .null, .null]))]) [0] (by decide) rfl ?_
  refine g_aload_n (pc := 22) X 0 rfl dX2_init_22 ?_
  refine g_sipush (pc := 23) X 480 (by decide) dX2_init_23 ?_
  refine g_newi (pc := 26) X 480 mw_3_11 (by decide) (by decide) (by decide) (by decide) (by decide) dX2_init_26 (fun q3 => ?_)
  refine g_as (pc' := 28) (lv' := [(0, .ref h0)]) (st' := [.ref q3, .ref h0]) (ws' := [(h0, .inr (2, [.null, .null, .int 0, .int 0, .int 0, .int 0, .ref q1, .ref q2, .int 0, .null, .null, .null, .null, .null, .null, .null])), (q3, .inl (Z.2.1 0, 480, .inl (fun _ => 0)))]) rfl rfl rfl rfl ?_
  refine g_putF (pc := 28) X hnm inlX2 tyX2_ok nmX2 0 rfl rfl 9 (by decide) mw_4_14 rfl rfl rfl rfl (Nat.le_of_ble_eq_true rfl) (ws' := [(h0, .inr (2, [.null, .null, .int 0, .int 0, .int 0, .int 0, .ref q1, .ref q2, .int 0, .ref q3, .null, .null, .null, .null, .null, .null])), (q3, .inl (Z.2.1 0, 480, .inl (fun _ => 0)))]) rfl dX2_init_28 ?_
  refine g_ws (ws' := [(h0, .inr (2, [.null, .null, .int 0, .int 0, .int 0, .int 0, .ref q1, .ref q2, .int 0, .ref q3, .null, .null, .null, .null, .null, .null]))]) [0] (by decide) rfl ?_
  refine g_aload_n (pc := 31) X 0 rfl dX2_init_31 ?_
  refine g_sipush (pc := 32) X 480 (by decide) dX2_init_32 ?_
  refine g_newi (pc := 35) X 480 mw_3_11 (by decide) (by decide) (by decide) (by decide) (by decide) dX2_init_35 (fun q4 => ?_)
  refine g_as (pc' := 37) (lv' := [(0, .ref h0)]) (st' := [.ref q4, .ref h0]) (ws' := [(h0, .inr (2, [.null, .null, .int 0, .int 0, .int 0, .int 0, .ref q1, .ref q2, .int 0, .ref q3, .null, .null, .null, .null, .null, .null])), (q4, .inl (Z.2.1 0, 480, .inl (fun _ => 0)))]) rfl rfl rfl rfl ?_
  refine g_putF (pc := 37) X hnm inlX2 tyX2_ok nmX2 0 rfl rfl 10 (by decide) mw_4_15 rfl rfl rfl rfl (Nat.le_of_ble_eq_true rfl) (ws' := [(h0, .inr (2, [.null, .null, .int 0, .int 0, .int 0, .int 0, .ref q1, .ref q2, .int 0, .ref q3, .ref q4, .null, .null, .null, .null, .null])), (q4, .inl (Z.2.1 0, 480, .inl (fun _ => 0)))]) rfl dX2_init_37 ?_
  refine g_ws (ws' := [(h0, .inr (2, [.null, .null, .int 0, .int 0, .int 0, .int 0, .ref q1, .ref q2, .int 0, .ref q3, .ref q4, .null, .null, .null, .null, .null]))]) [0] (by decide) rfl ?_
  refine g_aload_n (pc := 40) X 0 rfl dX2_init_40 ?_
  refine g_sipush (pc := 41) X 480 (by decide) dX2_init_41 ?_
  refine g_newi (pc := 44) X 480 mw_3_11 (by decide) (by decide) (by decide) (by decide) (by decide) dX2_init_44 (fun q5 => ?_)
  refine g_as (pc' := 46) (lv' := [(0, .ref h0)]) (st' := [.ref q5, .ref h0]) (ws' := [(h0, .inr (2, [.null, .null, .int 0, .int 0, .int 0, .int 0, .ref q1, .ref q2, .int 0, .ref q3, .ref q4, .null, .null, .null, .null, .null])), (q5, .inl (Z.2.1 0, 480, .inl (fun _ => 0)))]) rfl rfl rfl rfl ?_
  refine g_putF (pc := 46) X hnm inlX2 tyX2_ok nmX2 0 rfl rfl 11 (by decide) mw_4_16 rfl rfl rfl rfl (Nat.le_of_ble_eq_true rfl) (ws' := [(h0, .inr (2, [.null, .null, .int 0, .int 0, .int 0, .int 0, .ref q1, .ref q2, .int 0, .ref q3, .ref q4, .ref q5, .null, .null, .null, .null])), (q5, .inl (Z.2.1 0, 480, .inl (fun _ => 0)))]) rfl dX2_init_46 ?_
  refine g_ws (ws' := [(h0, .inr (2, [.null, .null, .int 0, .int 0, .int 0, .int 0, .ref q1, .ref q2, .int 0, .ref q3, .ref q4, .ref q5, .null, .null, .null, .null]))]) [0] (by decide) rfl ?_
  refine g_aload_n (pc := 49) X 0 rfl dX2_init_49 ?_
  refine g_sipush (pc := 50) X 480 (by decide) dX2_init_50 ?_
  refine g_newi (pc := 53) X 480 mw_3_11 (by decide) (by decide) (by decide) (by decide) (by decide) dX2_init_53 (fun q6 => ?_)
  refine g_as (pc' := 55) (lv' := [(0, .ref h0)]) (st' := [.ref q6, .ref h0]) (ws' := [(h0, .inr (2, [.null, .null, .int 0, .int 0, .int 0, .int 0, .ref q1, .ref q2, .int 0, .ref q3, .ref q4, .ref q5, .null, .null, .null, .null])), (q6, .inl (Z.2.1 0, 480, .inl (fun _ => 0)))]) rfl rfl rfl rfl ?_
  refine g_putF (pc := 55) X hnm inlX2 tyX2_ok nmX2 0 rfl rfl 12 (by decide) mw_4_17 rfl rfl rfl rfl (Nat.le_of_ble_eq_true rfl) (ws' := [(h0, .inr (2, [.null, .null, .int 0, .int 0, .int 0, .int 0, .ref q1, .ref q2, .int 0, .ref q3, .ref q4, .ref q5, .ref q6, .null, .null, .null])), (q6, .inl (Z.2.1 0, 480, .inl (fun _ => 0)))]) rfl dX2_init_55 ?_
  refine g_ws (ws' := [(h0, .inr (2, [.null, .null, .int 0, .int 0, .int 0, .int 0, .ref q1, .ref q2, .int 0, .ref q3, .ref q4, .ref q5, .ref q6, .null, .null, .null]))]) [0] (by decide) rfl ?_
  refine g_aload_n (pc := 58) X 0 rfl dX2_init_58 ?_
  refine g_sipush (pc := 59) X 480 (by decide) dX2_init_59 ?_
  refine g_newi (pc := 62) X 480 mw_3_11 (by decide) (by decide) (by decide) (by decide) (by decide) dX2_init_62 (fun q7 => ?_)
  refine g_as (pc' := 64) (lv' := [(0, .ref h0)]) (st' := [.ref q7, .ref h0]) (ws' := [(h0, .inr (2, [.null, .null, .int 0, .int 0, .int 0, .int 0, .ref q1, .ref q2, .int 0, .ref q3, .ref q4, .ref q5, .ref q6, .null, .null, .null])), (q7, .inl (Z.2.1 0, 480, .inl (fun _ => 0)))]) rfl rfl rfl rfl ?_
  refine g_putF (pc := 64) X hnm inlX2 tyX2_ok nmX2 0 rfl rfl 13 (by decide) mw_4_18 rfl rfl rfl rfl (Nat.le_of_ble_eq_true rfl) (ws' := [(h0, .inr (2, [.null, .null, .int 0, .int 0, .int 0, .int 0, .ref q1, .ref q2, .int 0, .ref q3, .ref q4, .ref q5, .ref q6, .ref q7, .null, .null])), (q7, .inl (Z.2.1 0, 480, .inl (fun _ => 0)))]) rfl dX2_init_64 ?_
  refine g_ws (ws' := [(h0, .inr (2, [.null, .null, .int 0, .int 0, .int 0, .int 0, .ref q1, .ref q2, .int 0, .ref q3, .ref q4, .ref q5, .ref q6, .ref q7, .null, .null]))]) [0] (by decide) rfl ?_
  refine g_aload_n (pc := 67) X 0 rfl dX2_init_67 ?_
  refine g_sipush (pc := 68) X 480 (by decide) dX2_init_68 ?_
  refine g_newi (pc := 71) X 480 mw_3_11 (by decide) (by decide) (by decide) (by decide) (by decide) dX2_init_71 (fun q8 => ?_)
  refine g_as (pc' := 73) (lv' := [(0, .ref h0)]) (st' := [.ref q8, .ref h0]) (ws' := [(h0, .inr (2, [.null, .null, .int 0, .int 0, .int 0, .int 0, .ref q1, .ref q2, .int 0, .ref q3, .ref q4, .ref q5, .ref q6, .ref q7, .null, .null])), (q8, .inl (Z.2.1 0, 480, .inl (fun _ => 0)))]) rfl rfl rfl rfl ?_
  refine g_putF (pc := 73) X hnm inlX2 tyX2_ok nmX2 0 rfl rfl 14 (by decide) mw_4_19 rfl rfl rfl rfl (Nat.le_of_ble_eq_true rfl) (ws' := [(h0, .inr (2, [.null, .null, .int 0, .int 0, .int 0, .int 0, .ref q1, .ref q2, .int 0, .ref q3, .ref q4, .ref q5, .ref q6, .ref q7, .ref q8, .null])), (q8, .inl (Z.2.1 0, 480, .inl (fun _ => 0)))]) rfl dX2_init_73 ?_
  refine g_ws (ws' := [(h0, .inr (2, [.null, .null, .int 0, .int 0, .int 0, .int 0, .ref q1, .ref q2, .int 0, .ref q3, .ref q4, .ref q5, .ref q6, .ref q7, .ref q8, .null]))]) [0] (by decide) rfl ?_
  refine g_aload_n (pc := 76) X 0 rfl dX2_init_76 ?_
  refine g_sipush (pc := 77) X 480 (by decide) dX2_init_77 ?_
  refine g_newi (pc := 80) X 480 mw_3_11 (by decide) (by decide) (by decide) (by decide) (by decide) dX2_init_80 (fun q9 => ?_)
  refine g_as (pc' := 82) (lv' := [(0, .ref h0)]) (st' := [.ref q9, .ref h0]) (ws' := [(h0, .inr (2, [.null, .null, .int 0, .int 0, .int 0, .int 0, .ref q1, .ref q2, .int 0, .ref q3, .ref q4, .ref q5, .ref q6, .ref q7, .ref q8, .null])), (q9, .inl (Z.2.1 0, 480, .inl (fun _ => 0)))]) rfl rfl rfl rfl ?_
  refine g_putF (pc := 82) X hnm inlX2 tyX2_ok nmX2 0 rfl rfl 15 (by decide) mw_4_20 rfl rfl rfl rfl (Nat.le_of_ble_eq_true rfl) (ws' := [(h0, .inr (2, [.null, .null, .int 0, .int 0, .int 0, .int 0, .ref q1, .ref q2, .int 0, .ref q3, .ref q4, .ref q5, .ref q6, .ref q7, .ref q8, .ref q9])), (q9, .inl (Z.2.1 0, 480, .inl (fun _ => 0)))]) rfl dX2_init_82 ?_
  refine g_ws (ws' := [(h0, .inr (2, [.null, .null, .int 0, .int 0, .int 0, .int 0, .ref q1, .ref q2, .int 0, .ref q3, .ref q4, .ref q5, .ref q6, .ref q7, .ref q8, .ref q9]))]) [0] (by decide) rfl ?_
  refine g_ws (ws' := []) [] (by decide) rfl ?_
  exact g_vret (pc := 85) X hA (rfl) (by decide) (by decide) dX2_init_85

set_option maxHeartbeats 4000000 in
set_option maxRecDepth 100000 in
theorem c_Rolls_init (l : Launch) (Z : gZ) (h0 : Nat) : Con l Z yX5_init cX5_init 1 none 1 20 4 7000 [.ref h0] [(h0, .inr (5, [.null, .int 0, .null, .int 0, .int 0, .null, .null, .null]))] (fun r w' => r = none) := by
  refine enter (by decide) (Nat.le_of_ble_eq_true rfl) ?_
  intro p e s m args below meth c A X hnm hA
  have X : Cx p s m args meth c cX5_init 1 none RX5 Z A := X
  refine g_as (pc' := 0) (lv' := [(0, .ref h0)]) (st' := []) (ws' := [(h0, .inr (5, [.null, .int 0, .null, .int 0, .int 0, .null, .null, .null]))]) rfl rfl rfl rfl ?_
  refine g_aload_n (pc := 0) X 0 rfl dX5_init_0 ?_
  refine g_objInit (pc := 1) X mw_5_0 mw_1_10 mw_1_11 (by decide) (Nat.le_of_ble_eq_true rfl) dX5_init_1 ?_
  refine g_aload_n (pc := 4) X 0 rfl dX5_init_4 ?_
  refine g_sipush (pc := 5) X 2880 (by decide) dX5_init_5 ?_
  refine g_newi (pc := 8) X 2880 mw_3_11 (by decide) (by decide) (by decide) (by decide) (by decide) dX5_init_8 (fun q1 => ?_)
  refine g_as (pc' := 10) (lv' := [(0, .ref h0)]) (st' := [.ref q1, .ref h0]) (ws' := [(h0, .inr (5, [.null, .int 0, .null, .int 0, .int 0, .null, .null, .null])), (q1, .inl (Z.2.1 0, 2880, .inl (fun _ => 0)))]) rfl rfl rfl rfl ?_
  refine g_putF (pc := 10) X hnm inlX5 tyX5_ok nmX5 0 rfl rfl 2 (by decide) mw_5_1 rfl rfl rfl rfl (Nat.le_of_ble_eq_true rfl) (ws' := [(h0, .inr (5, [.null, .int 0, .ref q1, .int 0, .int 0, .null, .null, .null])), (q1, .inl (Z.2.1 0, 2880, .inl (fun _ => 0)))]) rfl dX5_init_10 ?_
  refine g_ws (ws' := [(h0, .inr (5, [.null, .int 0, .ref q1, .int 0, .int 0, .null, .null, .null]))]) [0] (by decide) rfl ?_
  refine g_aload_n (pc := 13) X 0 rfl dX5_init_13 ?_
  refine g_sipush (pc := 14) X 4096 (by decide) dX5_init_14 ?_
  refine g_newi (pc := 17) X 4096 mw_3_11 (by decide) (by decide) (by decide) (by decide) (by decide) dX5_init_17 (fun q2 => ?_)
  refine g_as (pc' := 19) (lv' := [(0, .ref h0)]) (st' := [.ref q2, .ref h0]) (ws' := [(h0, .inr (5, [.null, .int 0, .ref q1, .int 0, .int 0, .null, .null, .null])), (q2, .inl (Z.2.1 0, 4096, .inl (fun _ => 0)))]) rfl rfl rfl rfl ?_
  refine g_putF (pc := 19) X hnm inlX5 tyX5_ok nmX5 0 rfl rfl 5 (by decide) mw_5_2 rfl rfl rfl rfl (Nat.le_of_ble_eq_true rfl) (ws' := [(h0, .inr (5, [.null, .int 0, .ref q1, .int 0, .int 0, .ref q2, .null, .null])), (q2, .inl (Z.2.1 0, 4096, .inl (fun _ => 0)))]) rfl dX5_init_19 ?_
  refine g_ws (ws' := [(h0, .inr (5, [.null, .int 0, .ref q1, .int 0, .int 0, .ref q2, .null, .null]))]) [0] (by decide) rfl ?_
  refine g_aload_n (pc := 22) X 0 rfl dX5_init_22 ?_
  refine g_bipush (pc := 23) X 12 (by decide) dX5_init_23 ?_
  refine g_newi (pc := 25) X 12 mw_3_11 (by decide) (by decide) (by decide) (by decide) (by decide) dX5_init_25 (fun q3 => ?_)
  refine g_as (pc' := 27) (lv' := [(0, .ref h0)]) (st' := [.ref q3, .ref h0]) (ws' := [(h0, .inr (5, [.null, .int 0, .ref q1, .int 0, .int 0, .ref q2, .null, .null])), (q3, .inl (Z.2.1 0, 12, .inl (fun _ => 0)))]) rfl rfl rfl rfl ?_
  refine g_putF (pc := 27) X hnm inlX5 tyX5_ok nmX5 0 rfl rfl 6 (by decide) mw_5_3 rfl rfl rfl rfl (Nat.le_of_ble_eq_true rfl) (ws' := [(h0, .inr (5, [.null, .int 0, .ref q1, .int 0, .int 0, .ref q2, .ref q3, .null])), (q3, .inl (Z.2.1 0, 12, .inl (fun _ => 0)))]) rfl dX5_init_27 ?_
  refine g_ws (ws' := [(h0, .inr (5, [.null, .int 0, .ref q1, .int 0, .int 0, .ref q2, .ref q3, .null]))]) [0] (by decide) rfl ?_
  refine g_aload_n (pc := 30) X 0 rfl dX5_init_30 ?_
  refine g_bipush (pc := 31) X 12 (by decide) dX5_init_31 ?_
  refine g_newi (pc := 33) X 12 mw_3_11 (by decide) (by decide) (by decide) (by decide) (by decide) dX5_init_33 (fun q4 => ?_)
  refine g_as (pc' := 35) (lv' := [(0, .ref h0)]) (st' := [.ref q4, .ref h0]) (ws' := [(h0, .inr (5, [.null, .int 0, .ref q1, .int 0, .int 0, .ref q2, .ref q3, .null])), (q4, .inl (Z.2.1 0, 12, .inl (fun _ => 0)))]) rfl rfl rfl rfl ?_
  refine g_putF (pc := 35) X hnm inlX5 tyX5_ok nmX5 0 rfl rfl 7 (by decide) mw_5_4 rfl rfl rfl rfl (Nat.le_of_ble_eq_true rfl) (ws' := [(h0, .inr (5, [.null, .int 0, .ref q1, .int 0, .int 0, .ref q2, .ref q3, .ref q4])), (q4, .inl (Z.2.1 0, 12, .inl (fun _ => 0)))]) rfl dX5_init_35 ?_
  refine g_ws (ws' := [(h0, .inr (5, [.null, .int 0, .ref q1, .int 0, .int 0, .ref q2, .ref q3, .ref q4]))]) [0] (by decide) rfl ?_
  refine g_ws (ws' := []) [] (by decide) rfl ?_
  exact g_vret (pc := 38) X hA (rfl) (by decide) (by decide) dX5_init_38

set_option maxHeartbeats 4000000 in
set_option maxRecDepth 100000 in
theorem c_Judge_init (l : Launch) (Z : gZ) (h0 : Nat) : Con l Z yX1_init cX1_init 1 none 1 20 2 376 [.ref h0] [(h0, .inr (1, [.null, .null, .int 0, .int 0, .null, .null, .int 0, .int 0, .int 0]))] (fun r w' => r = none) := by
  refine enter (by decide) (Nat.le_of_ble_eq_true rfl) ?_
  intro p e s m args below meth c A X hnm hA
  have X : Cx p s m args meth c cX1_init 1 none RX1 Z A := X
  refine g_as (pc' := 0) (lv' := [(0, .ref h0)]) (st' := []) (ws' := [(h0, .inr (1, [.null, .null, .int 0, .int 0, .null, .null, .int 0, .int 0, .int 0]))]) rfl rfl rfl rfl ?_
  refine g_aload_n (pc := 0) X 0 rfl dX1_init_0 ?_
  refine g_objInit (pc := 1) X mw_5_8 mw_1_10 mw_1_11 (by decide) (Nat.le_of_ble_eq_true rfl) dX1_init_1 ?_
  refine g_aload_n (pc := 4) X 0 rfl dX1_init_4 ?_
  refine g_bipush (pc := 5) X 120 (by decide) dX1_init_5 ?_
  refine g_newi (pc := 7) X 120 mw_3_11 (by decide) (by decide) (by decide) (by decide) (by decide) dX1_init_7 (fun q1 => ?_)
  refine g_as (pc' := 9) (lv' := [(0, .ref h0)]) (st' := [.ref q1, .ref h0]) (ws' := [(h0, .inr (1, [.null, .null, .int 0, .int 0, .null, .null, .int 0, .int 0, .int 0])), (q1, .inl (Z.2.1 0, 120, .inl (fun _ => 0)))]) rfl rfl rfl rfl ?_
  refine g_putF (pc := 9) X hnm inlX1 tyX1_ok nmX1 0 rfl rfl 4 (by decide) mw_5_9 rfl rfl rfl rfl (Nat.le_of_ble_eq_true rfl) (ws' := [(h0, .inr (1, [.null, .null, .int 0, .int 0, .ref q1, .null, .int 0, .int 0, .int 0])), (q1, .inl (Z.2.1 0, 120, .inl (fun _ => 0)))]) rfl dX1_init_9 ?_
  refine g_ws (ws' := [(h0, .inr (1, [.null, .null, .int 0, .int 0, .ref q1, .null, .int 0, .int 0, .int 0]))]) [0] (by decide) rfl ?_
  refine g_aload_n (pc := 12) X 0 rfl dX1_init_12 ?_
  refine g_sipush (pc := 13) X 256 (by decide) dX1_init_13 ?_
  refine g_newi (pc := 16) X 256 mw_3_11 (by decide) (by decide) (by decide) (by decide) (by decide) dX1_init_16 (fun q2 => ?_)
  refine g_as (pc' := 18) (lv' := [(0, .ref h0)]) (st' := [.ref q2, .ref h0]) (ws' := [(h0, .inr (1, [.null, .null, .int 0, .int 0, .ref q1, .null, .int 0, .int 0, .int 0])), (q2, .inl (Z.2.1 0, 256, .inl (fun _ => 0)))]) rfl rfl rfl rfl ?_
  refine g_putF (pc := 18) X hnm inlX1 tyX1_ok nmX1 0 rfl rfl 5 (by decide) mw_5_10 rfl rfl rfl rfl (Nat.le_of_ble_eq_true rfl) (ws' := [(h0, .inr (1, [.null, .null, .int 0, .int 0, .ref q1, .ref q2, .int 0, .int 0, .int 0])), (q2, .inl (Z.2.1 0, 256, .inl (fun _ => 0)))]) rfl dX1_init_18 ?_
  refine g_ws (ws' := [(h0, .inr (1, [.null, .null, .int 0, .int 0, .ref q1, .ref q2, .int 0, .int 0, .int 0]))]) [0] (by decide) rfl ?_
  refine g_ws (ws' := []) [] (by decide) rfl ?_
  exact g_vret (pc := 21) X hA (rfl) (by decide) (by decide) dX1_init_21

set_option maxHeartbeats 4000000 in
set_option maxRecDepth 100000 in
theorem c_Sharing_init (l : Launch) (Z : gZ) (h0 : Nat) : Con l Z yX7_init cX7_init 1 none 1 20 7 44 [.ref h0] [(h0, .inr (7, [.int 0, .null, .null, .null, .int 0, .int 0, .null, .null, .null, .null, .null, .int 0]))] (fun r w' => ∃ (q1 : Nat) (q2 : Nat) (q3 : Nat) (q4 : Nat) (q5 : Nat) (q6 : Nat) (q7 : Nat), r = none ∧ w' = [(h0, .inr (7, [.int 0, .ref q1, .ref q2, .null, .int 0, .int 0, .ref q3, .ref q4, .ref q5, .ref q6, .ref q7, .int 0]))]) := by
  refine enter (by decide) (Nat.le_of_ble_eq_true rfl) ?_
  intro p e s m args below meth c A X hnm hA
  have X : Cx p s m args meth c cX7_init 1 none RX7 Z A := X
  refine g_as (pc' := 0) (lv' := [(0, .ref h0)]) (st' := []) (ws' := [(h0, .inr (7, [.int 0, .null, .null, .null, .int 0, .int 0, .null, .null, .null, .null, .null, .int 0]))]) rfl rfl rfl rfl ?_
  refine g_aload_n (pc := 0) X 0 rfl dX7_init_0 ?_
  refine g_objInit (pc := 1) X mw_5_14 mw_1_10 mw_1_11 (by decide) (Nat.le_of_ble_eq_true rfl) dX7_init_1 ?_
  refine g_aload_n (pc := 4) X 0 rfl dX7_init_4 ?_
  refine g_iconst (pc := 5) X 4 (by decide) dX7_init_5 ?_
  refine g_newi (pc := 6) X 4 mw_3_11 (by decide) (by decide) (by decide) (by decide) (by decide) dX7_init_6 (fun q1 => ?_)
  refine g_as (pc' := 8) (lv' := [(0, .ref h0)]) (st' := [.ref q1, .ref h0]) (ws' := [(h0, .inr (7, [.int 0, .null, .null, .null, .int 0, .int 0, .null, .null, .null, .null, .null, .int 0])), (q1, .inl (Z.2.1 0, 4, .inl (fun _ => 0)))]) rfl rfl rfl rfl ?_
  refine g_putF (pc := 8) X hnm inlX7 tyX7_ok nmX7 0 rfl rfl 1 (by decide) mw_5_15 rfl rfl rfl rfl (Nat.le_of_ble_eq_true rfl) (ws' := [(h0, .inr (7, [.int 0, .ref q1, .null, .null, .int 0, .int 0, .null, .null, .null, .null, .null, .int 0])), (q1, .inl (Z.2.1 0, 4, .inl (fun _ => 0)))]) rfl dX7_init_8 ?_
  refine g_ws (ws' := [(h0, .inr (7, [.int 0, .ref q1, .null, .null, .int 0, .int 0, .null, .null, .null, .null, .null, .int 0]))]) [0] (by decide) rfl ?_
  refine g_aload_n (pc := 11) X 0 rfl dX7_init_11 ?_
  refine g_iconst (pc := 12) X 4 (by decide) dX7_init_12 ?_
  refine g_newi (pc := 13) X 4 mw_3_11 (by decide) (by decide) (by decide) (by decide) (by decide) dX7_init_13 (fun q2 => ?_)
  refine g_as (pc' := 15) (lv' := [(0, .ref h0)]) (st' := [.ref q2, .ref h0]) (ws' := [(h0, .inr (7, [.int 0, .ref q1, .null, .null, .int 0, .int 0, .null, .null, .null, .null, .null, .int 0])), (q2, .inl (Z.2.1 0, 4, .inl (fun _ => 0)))]) rfl rfl rfl rfl ?_
  refine g_putF (pc := 15) X hnm inlX7 tyX7_ok nmX7 0 rfl rfl 2 (by decide) mw_5_16 rfl rfl rfl rfl (Nat.le_of_ble_eq_true rfl) (ws' := [(h0, .inr (7, [.int 0, .ref q1, .ref q2, .null, .int 0, .int 0, .null, .null, .null, .null, .null, .int 0])), (q2, .inl (Z.2.1 0, 4, .inl (fun _ => 0)))]) rfl dX7_init_15 ?_
  refine g_ws (ws' := [(h0, .inr (7, [.int 0, .ref q1, .ref q2, .null, .int 0, .int 0, .null, .null, .null, .null, .null, .int 0]))]) [0] (by decide) rfl ?_
  refine g_aload_n (pc := 18) X 0 rfl dX7_init_18 ?_
  refine g_bipush (pc := 19) X 8 (by decide) dX7_init_19 ?_
  refine g_newi (pc := 21) X 8 mw_3_11 (by decide) (by decide) (by decide) (by decide) (by decide) dX7_init_21 (fun q3 => ?_)
  refine g_as (pc' := 23) (lv' := [(0, .ref h0)]) (st' := [.ref q3, .ref h0]) (ws' := [(h0, .inr (7, [.int 0, .ref q1, .ref q2, .null, .int 0, .int 0, .null, .null, .null, .null, .null, .int 0])), (q3, .inl (Z.2.1 0, 8, .inl (fun _ => 0)))]) rfl rfl rfl rfl ?_
  refine g_putF (pc := 23) X hnm inlX7 tyX7_ok nmX7 0 rfl rfl 6 (by decide) mw_5_17 rfl rfl rfl rfl (Nat.le_of_ble_eq_true rfl) (ws' := [(h0, .inr (7, [.int 0, .ref q1, .ref q2, .null, .int 0, .int 0, .ref q3, .null, .null, .null, .null, .int 0])), (q3, .inl (Z.2.1 0, 8, .inl (fun _ => 0)))]) rfl dX7_init_23 ?_
  refine g_ws (ws' := [(h0, .inr (7, [.int 0, .ref q1, .ref q2, .null, .int 0, .int 0, .ref q3, .null, .null, .null, .null, .int 0]))]) [0] (by decide) rfl ?_
  refine g_aload_n (pc := 26) X 0 rfl dX7_init_26 ?_
  refine g_bipush (pc := 27) X 8 (by decide) dX7_init_27 ?_
  refine g_newz (pc := 29) X 8 mw_5_18 (by decide) (by decide) (by decide) (by decide) (by decide) dX7_init_29 (fun q4 => ?_)
  refine g_as (pc' := 31) (lv' := [(0, .ref h0)]) (st' := [.ref q4, .ref h0]) (ws' := [(h0, .inr (7, [.int 0, .ref q1, .ref q2, .null, .int 0, .int 0, .ref q3, .null, .null, .null, .null, .int 0])), (q4, .inl (Z.2.1 2, 8, .inl (fun _ => 0)))]) rfl rfl rfl rfl ?_
  refine g_putF (pc := 31) X hnm inlX7 tyX7_ok nmX7 0 rfl rfl 7 (by decide) mw_5_19 rfl rfl rfl rfl (Nat.le_of_ble_eq_true rfl) (ws' := [(h0, .inr (7, [.int 0, .ref q1, .ref q2, .null, .int 0, .int 0, .ref q3, .ref q4, .null, .null, .null, .int 0])), (q4, .inl (Z.2.1 2, 8, .inl (fun _ => 0)))]) rfl dX7_init_31 ?_
  refine g_ws (ws' := [(h0, .inr (7, [.int 0, .ref q1, .ref q2, .null, .int 0, .int 0, .ref q3, .ref q4, .null, .null, .null, .int 0]))]) [0] (by decide) rfl ?_
  refine g_aload_n (pc := 34) X 0 rfl dX7_init_34 ?_
  refine g_iconst (pc := 35) X 4 (by decide) dX7_init_35 ?_
  refine g_newi (pc := 36) X 4 mw_3_11 (by decide) (by decide) (by decide) (by decide) (by decide) dX7_init_36 (fun q5 => ?_)
  refine g_as (pc' := 38) (lv' := [(0, .ref h0)]) (st' := [.ref q5, .ref h0]) (ws' := [(h0, .inr (7, [.int 0, .ref q1, .ref q2, .null, .int 0, .int 0, .ref q3, .ref q4, .null, .null, .null, .int 0])), (q5, .inl (Z.2.1 0, 4, .inl (fun _ => 0)))]) rfl rfl rfl rfl ?_
  refine g_putF (pc := 38) X hnm inlX7 tyX7_ok nmX7 0 rfl rfl 8 (by decide) mw_5_20 rfl rfl rfl rfl (Nat.le_of_ble_eq_true rfl) (ws' := [(h0, .inr (7, [.int 0, .ref q1, .ref q2, .null, .int 0, .int 0, .ref q3, .ref q4, .ref q5, .null, .null, .int 0])), (q5, .inl (Z.2.1 0, 4, .inl (fun _ => 0)))]) rfl dX7_init_38 ?_
  refine g_ws (ws' := [(h0, .inr (7, [.int 0, .ref q1, .ref q2, .null, .int 0, .int 0, .ref q3, .ref q4, .ref q5, .null, .null, .int 0]))]) [0] (by decide) rfl ?_
  refine g_aload_n (pc := 41) X 0 rfl dX7_init_41 ?_
  refine g_bipush (pc := 42) X 8 (by decide) dX7_init_42 ?_
  refine g_newi (pc := 44) X 8 mw_3_11 (by decide) (by decide) (by decide) (by decide) (by decide) dX7_init_44 (fun q6 => ?_)
  refine g_as (pc' := 46) (lv' := [(0, .ref h0)]) (st' := [.ref q6, .ref h0]) (ws' := [(h0, .inr (7, [.int 0, .ref q1, .ref q2, .null, .int 0, .int 0, .ref q3, .ref q4, .ref q5, .null, .null, .int 0])), (q6, .inl (Z.2.1 0, 8, .inl (fun _ => 0)))]) rfl rfl rfl rfl ?_
  refine g_putF (pc := 46) X hnm inlX7 tyX7_ok nmX7 0 rfl rfl 9 (by decide) mw_5_21 rfl rfl rfl rfl (Nat.le_of_ble_eq_true rfl) (ws' := [(h0, .inr (7, [.int 0, .ref q1, .ref q2, .null, .int 0, .int 0, .ref q3, .ref q4, .ref q5, .ref q6, .null, .int 0])), (q6, .inl (Z.2.1 0, 8, .inl (fun _ => 0)))]) rfl dX7_init_46 ?_
  refine g_ws (ws' := [(h0, .inr (7, [.int 0, .ref q1, .ref q2, .null, .int 0, .int 0, .ref q3, .ref q4, .ref q5, .ref q6, .null, .int 0]))]) [0] (by decide) rfl ?_
  refine g_aload_n (pc := 49) X 0 rfl dX7_init_49 ?_
  refine g_bipush (pc := 50) X 8 (by decide) dX7_init_50 ?_
  refine g_newi (pc := 52) X 8 mw_3_11 (by decide) (by decide) (by decide) (by decide) (by decide) dX7_init_52 (fun q7 => ?_)
  refine g_as (pc' := 54) (lv' := [(0, .ref h0)]) (st' := [.ref q7, .ref h0]) (ws' := [(h0, .inr (7, [.int 0, .ref q1, .ref q2, .null, .int 0, .int 0, .ref q3, .ref q4, .ref q5, .ref q6, .null, .int 0])), (q7, .inl (Z.2.1 0, 8, .inl (fun _ => 0)))]) rfl rfl rfl rfl ?_
  refine g_putF (pc := 54) X hnm inlX7 tyX7_ok nmX7 0 rfl rfl 10 (by decide) mw_5_22 rfl rfl rfl rfl (Nat.le_of_ble_eq_true rfl) (ws' := [(h0, .inr (7, [.int 0, .ref q1, .ref q2, .null, .int 0, .int 0, .ref q3, .ref q4, .ref q5, .ref q6, .ref q7, .int 0])), (q7, .inl (Z.2.1 0, 8, .inl (fun _ => 0)))]) rfl dX7_init_54 ?_
  refine g_ws (ws' := [(h0, .inr (7, [.int 0, .ref q1, .ref q2, .null, .int 0, .int 0, .ref q3, .ref q4, .ref q5, .ref q6, .ref q7, .int 0]))]) [0] (by decide) rfl ?_
  exact g_vret (pc := 57) X hA (⟨q1, q2, q3, q4, q5, q6, q7, rfl, rfl⟩) (by decide) (by decide) dX7_init_57

set_option maxHeartbeats 4000000 in
set_option maxRecDepth 100000 in
theorem c_Day_init (l : Launch) (Z : gZ) (h0 : Nat) : Con l Z yX0_init cX0_init 1 none 1 20 1 2 [.ref h0] [(h0, .inr (0, [.int 0, .int 0, .int 0, .int 0, .int 0, .null, .int 0]))] (fun r w' => r = none) := by
  refine enter (by decide) (Nat.le_of_ble_eq_true rfl) ?_
  intro p e s m args below meth c A X hnm hA
  have X : Cx p s m args meth c cX0_init 1 none RX0 Z A := X
  refine g_as (pc' := 0) (lv' := [(0, .ref h0)]) (st' := []) (ws' := [(h0, .inr (0, [.int 0, .int 0, .int 0, .int 0, .int 0, .null, .int 0]))]) rfl rfl rfl rfl ?_
  refine g_aload_n (pc := 0) X 0 rfl dX0_init_0 ?_
  refine g_objInit (pc := 1) X mw_6_2 mw_1_10 mw_1_11 (by decide) (Nat.le_of_ble_eq_true rfl) dX0_init_1 ?_
  refine g_aload_n (pc := 4) X 0 rfl dX0_init_4 ?_
  refine g_iconst (pc := 5) X 2 (by decide) dX0_init_5 ?_
  refine g_newi (pc := 6) X 2 mw_3_11 (by decide) (by decide) (by decide) (by decide) (by decide) dX0_init_6 (fun q1 => ?_)
  refine g_as (pc' := 8) (lv' := [(0, .ref h0)]) (st' := [.ref q1, .ref h0]) (ws' := [(h0, .inr (0, [.int 0, .int 0, .int 0, .int 0, .int 0, .null, .int 0])), (q1, .inl (Z.2.1 0, 2, .inl (fun _ => 0)))]) rfl rfl rfl rfl ?_
  refine g_putF (pc := 8) X hnm inlX0 tyX0_ok nmX0 0 rfl rfl 5 (by decide) mw_6_3 rfl rfl rfl rfl (Nat.le_of_ble_eq_true rfl) (ws' := [(h0, .inr (0, [.int 0, .int 0, .int 0, .int 0, .int 0, .ref q1, .int 0])), (q1, .inl (Z.2.1 0, 2, .inl (fun _ => 0)))]) rfl dX0_init_8 ?_
  refine g_ws (ws' := [(h0, .inr (0, [.int 0, .int 0, .int 0, .int 0, .int 0, .ref q1, .int 0]))]) [0] (by decide) rfl ?_
  refine g_ws (ws' := []) [] (by decide) rfl ?_
  exact g_vret (pc := 11) X hA (rfl) (by decide) (by decide) dX0_init_11

set_option maxHeartbeats 4000000 in
set_option maxRecDepth 100000 in
theorem c_Walls_init (l : Launch) (Z : gZ) (h0 : Nat) : Con l Z yX10_init cX10_init 1 none 1 20 6 48 [.ref h0] [(h0, .inr (10, [.null, .null, .null, .null, .null, .null, .int 0, .int 0]))] (fun r w' => ∃ (q1 : Nat) (q2 : Nat) (q3 : Nat) (q4 : Nat) (q5 : Nat) (q6 : Nat), r = none ∧ w' = [(h0, .inr (10, [.ref q1, .ref q2, .ref q3, .ref q4, .ref q5, .ref q6, .int 0, .int 0]))]) := by
  refine enter (by decide) (Nat.le_of_ble_eq_true rfl) ?_
  intro p e s m args below meth c A X hnm hA
  have X : Cx p s m args meth c cX10_init 1 none RX10 Z A := X
  refine g_as (pc' := 0) (lv' := [(0, .ref h0)]) (st' := []) (ws' := [(h0, .inr (10, [.null, .null, .null, .null, .null, .null, .int 0, .int 0]))]) rfl rfl rfl rfl ?_
  refine g_aload_n (pc := 0) X 0 rfl dX10_init_0 ?_
  refine g_objInit (pc := 1) X mw_7_0 mw_1_10 mw_1_11 (by decide) (Nat.le_of_ble_eq_true rfl) dX10_init_1 ?_
  refine g_aload_n (pc := 4) X 0 rfl dX10_init_4 ?_
  refine g_bipush (pc := 5) X 8 (by decide) dX10_init_5 ?_
  refine g_newi (pc := 7) X 8 mw_3_11 (by decide) (by decide) (by decide) (by decide) (by decide) dX10_init_7 (fun q1 => ?_)
  refine g_as (pc' := 9) (lv' := [(0, .ref h0)]) (st' := [.ref q1, .ref h0]) (ws' := [(h0, .inr (10, [.null, .null, .null, .null, .null, .null, .int 0, .int 0])), (q1, .inl (Z.2.1 0, 8, .inl (fun _ => 0)))]) rfl rfl rfl rfl ?_
  refine g_putF (pc := 9) X hnm inlX10 tyX10_ok nmX10 0 rfl rfl 0 (by decide) mw_7_1 rfl rfl rfl rfl (Nat.le_of_ble_eq_true rfl) (ws' := [(h0, .inr (10, [.ref q1, .null, .null, .null, .null, .null, .int 0, .int 0])), (q1, .inl (Z.2.1 0, 8, .inl (fun _ => 0)))]) rfl dX10_init_9 ?_
  refine g_ws (ws' := [(h0, .inr (10, [.ref q1, .null, .null, .null, .null, .null, .int 0, .int 0]))]) [0] (by decide) rfl ?_
  refine g_aload_n (pc := 12) X 0 rfl dX10_init_12 ?_
  refine g_bipush (pc := 13) X 8 (by decide) dX10_init_13 ?_
  refine g_newi (pc := 15) X 8 mw_3_11 (by decide) (by decide) (by decide) (by decide) (by decide) dX10_init_15 (fun q2 => ?_)
  refine g_as (pc' := 17) (lv' := [(0, .ref h0)]) (st' := [.ref q2, .ref h0]) (ws' := [(h0, .inr (10, [.ref q1, .null, .null, .null, .null, .null, .int 0, .int 0])), (q2, .inl (Z.2.1 0, 8, .inl (fun _ => 0)))]) rfl rfl rfl rfl ?_
  refine g_putF (pc := 17) X hnm inlX10 tyX10_ok nmX10 0 rfl rfl 1 (by decide) mw_7_2 rfl rfl rfl rfl (Nat.le_of_ble_eq_true rfl) (ws' := [(h0, .inr (10, [.ref q1, .ref q2, .null, .null, .null, .null, .int 0, .int 0])), (q2, .inl (Z.2.1 0, 8, .inl (fun _ => 0)))]) rfl dX10_init_17 ?_
  refine g_ws (ws' := [(h0, .inr (10, [.ref q1, .ref q2, .null, .null, .null, .null, .int 0, .int 0]))]) [0] (by decide) rfl ?_
  refine g_aload_n (pc := 20) X 0 rfl dX10_init_20 ?_
  refine g_bipush (pc := 21) X 8 (by decide) dX10_init_21 ?_
  refine g_newi (pc := 23) X 8 mw_3_11 (by decide) (by decide) (by decide) (by decide) (by decide) dX10_init_23 (fun q3 => ?_)
  refine g_as (pc' := 25) (lv' := [(0, .ref h0)]) (st' := [.ref q3, .ref h0]) (ws' := [(h0, .inr (10, [.ref q1, .ref q2, .null, .null, .null, .null, .int 0, .int 0])), (q3, .inl (Z.2.1 0, 8, .inl (fun _ => 0)))]) rfl rfl rfl rfl ?_
  refine g_putF (pc := 25) X hnm inlX10 tyX10_ok nmX10 0 rfl rfl 2 (by decide) mw_7_3 rfl rfl rfl rfl (Nat.le_of_ble_eq_true rfl) (ws' := [(h0, .inr (10, [.ref q1, .ref q2, .ref q3, .null, .null, .null, .int 0, .int 0])), (q3, .inl (Z.2.1 0, 8, .inl (fun _ => 0)))]) rfl dX10_init_25 ?_
  refine g_ws (ws' := [(h0, .inr (10, [.ref q1, .ref q2, .ref q3, .null, .null, .null, .int 0, .int 0]))]) [0] (by decide) rfl ?_
  refine g_aload_n (pc := 28) X 0 rfl dX10_init_28 ?_
  refine g_bipush (pc := 29) X 8 (by decide) dX10_init_29 ?_
  refine g_newi (pc := 31) X 8 mw_3_11 (by decide) (by decide) (by decide) (by decide) (by decide) dX10_init_31 (fun q4 => ?_)
  refine g_as (pc' := 33) (lv' := [(0, .ref h0)]) (st' := [.ref q4, .ref h0]) (ws' := [(h0, .inr (10, [.ref q1, .ref q2, .ref q3, .null, .null, .null, .int 0, .int 0])), (q4, .inl (Z.2.1 0, 8, .inl (fun _ => 0)))]) rfl rfl rfl rfl ?_
  refine g_putF (pc := 33) X hnm inlX10 tyX10_ok nmX10 0 rfl rfl 3 (by decide) mw_7_4 rfl rfl rfl rfl (Nat.le_of_ble_eq_true rfl) (ws' := [(h0, .inr (10, [.ref q1, .ref q2, .ref q3, .ref q4, .null, .null, .int 0, .int 0])), (q4, .inl (Z.2.1 0, 8, .inl (fun _ => 0)))]) rfl dX10_init_33 ?_
  refine g_ws (ws' := [(h0, .inr (10, [.ref q1, .ref q2, .ref q3, .ref q4, .null, .null, .int 0, .int 0]))]) [0] (by decide) rfl ?_
  refine g_aload_n (pc := 36) X 0 rfl dX10_init_36 ?_
  refine g_bipush (pc := 37) X 8 (by decide) dX10_init_37 ?_
  refine g_newi (pc := 39) X 8 mw_3_11 (by decide) (by decide) (by decide) (by decide) (by decide) dX10_init_39 (fun q5 => ?_)
  refine g_as (pc' := 41) (lv' := [(0, .ref h0)]) (st' := [.ref q5, .ref h0]) (ws' := [(h0, .inr (10, [.ref q1, .ref q2, .ref q3, .ref q4, .null, .null, .int 0, .int 0])), (q5, .inl (Z.2.1 0, 8, .inl (fun _ => 0)))]) rfl rfl rfl rfl ?_
  refine g_putF (pc := 41) X hnm inlX10 tyX10_ok nmX10 0 rfl rfl 4 (by decide) mw_7_5 rfl rfl rfl rfl (Nat.le_of_ble_eq_true rfl) (ws' := [(h0, .inr (10, [.ref q1, .ref q2, .ref q3, .ref q4, .ref q5, .null, .int 0, .int 0])), (q5, .inl (Z.2.1 0, 8, .inl (fun _ => 0)))]) rfl dX10_init_41 ?_
  refine g_ws (ws' := [(h0, .inr (10, [.ref q1, .ref q2, .ref q3, .ref q4, .ref q5, .null, .int 0, .int 0]))]) [0] (by decide) rfl ?_
  refine g_aload_n (pc := 44) X 0 rfl dX10_init_44 ?_
  refine g_bipush (pc := 45) X 8 (by decide) dX10_init_45 ?_
  refine g_newz (pc := 47) X 8 mw_5_18 (by decide) (by decide) (by decide) (by decide) (by decide) dX10_init_47 (fun q6 => ?_)
  refine g_as (pc' := 49) (lv' := [(0, .ref h0)]) (st' := [.ref q6, .ref h0]) (ws' := [(h0, .inr (10, [.ref q1, .ref q2, .ref q3, .ref q4, .ref q5, .null, .int 0, .int 0])), (q6, .inl (Z.2.1 2, 8, .inl (fun _ => 0)))]) rfl rfl rfl rfl ?_
  refine g_putF (pc := 49) X hnm inlX10 tyX10_ok nmX10 0 rfl rfl 5 (by decide) mw_7_6 rfl rfl rfl rfl (Nat.le_of_ble_eq_true rfl) (ws' := [(h0, .inr (10, [.ref q1, .ref q2, .ref q3, .ref q4, .ref q5, .ref q6, .int 0, .int 0])), (q6, .inl (Z.2.1 2, 8, .inl (fun _ => 0)))]) rfl dX10_init_49 ?_
  refine g_ws (ws' := [(h0, .inr (10, [.ref q1, .ref q2, .ref q3, .ref q4, .ref q5, .ref q6, .int 0, .int 0]))]) [0] (by decide) rfl ?_
  exact g_vret (pc := 52) X hA (⟨q1, q2, q3, q4, q5, q6, rfl, rfl⟩) (by decide) (by decide) dX10_init_52

set_option maxHeartbeats 4000000 in
set_option maxRecDepth 100000 in
theorem c_Room_init (l : Launch) (Z : gZ) (h0 : Nat) : Con l Z yX6_init cX6_init 1 none 2 40 16 116 [.ref h0] [(h0, .inr (6, [.null, .int 0, .null, .null, .null, .null, .null, .null, .int 0, .null, .null, .null]))] (fun r w' => ∃ (q1 : Nat) (q2 : Nat) (q3 : Nat) (q4 : Nat) (q5 : Nat) (q6 : Nat) (q7 : Nat) (q8 : Nat) (q9 : Nat) (q10 : Nat) (q11 : Nat) (q12 : Nat) (q13 : Nat) (q14 : Nat) (q15 : Nat) (q16 : Nat), r = none ∧ w' = [(h0, .inr (6, [.ref q1, .int 0, .ref q8, .ref q9, .ref q10, .ref q11, .ref q12, .ref q13, .int 0, .ref q14, .ref q15, .ref q16])), (q1, .inr (10, [.ref q2, .ref q3, .ref q4, .ref q5, .ref q6, .ref q7, .int 0, .int 0]))]) := by
  refine enter (by decide) (Nat.le_of_ble_eq_true rfl) ?_
  intro p e s m args below meth c A X hnm hA
  have X : Cx p s m args meth c cX6_init 1 none RX6 Z A := X
  refine g_as (pc' := 0) (lv' := [(0, .ref h0)]) (st' := []) (ws' := [(h0, .inr (6, [.null, .int 0, .null, .null, .null, .null, .null, .null, .int 0, .null, .null, .null]))]) rfl rfl rfl rfl ?_
  refine g_aload_n (pc := 0) X 0 rfl dX6_init_0 ?_
  refine g_objInit (pc := 1) X mw_6_7 mw_1_10 mw_1_11 (by decide) (Nat.le_of_ble_eq_true rfl) dX6_init_1 ?_
  refine g_aload_n (pc := 4) X 0 rfl dX6_init_4 ?_
  refine g_new (pc := 5) (ci := 10) X inlX10 tyX10_ok mw_6_8 mw_6_9 mw_6_10 rfl df_X10 (by decide) (by decide) dX6_init_5 (fun q1 => ?_)
  refine g_as (pc' := 8) (lv' := [(0, .ref h0)]) (st' := [.ref q1, .ref h0]) (ws' := [(h0, .inr (6, [.null, .int 0, .null, .null, .null, .null, .null, .null, .int 0, .null, .null, .null])), (q1, .inr (10, [.null, .null, .null, .null, .null, .null, .int 0, .int 0]))]) rfl rfl rfl rfl ?_
  refine g_dup (pc := 8) X rfl dX6_init_8 ?_
  refine g_callI (pc := 9) X (c_Walls_init l Z q1) iM_X10_init rfl mw_6_21 mw_6_22 [1] [0] rfl (wr := [(h0, .inr (6, [.null, .int 0, .null, .null, .null, .null, .null, .null, .int 0, .null, .null, .null]))]) rfl (by decide) rfl rfl (Nat.le_of_ble_eq_true rfl) (by decide) dX6_init_9 (fun r w' hpo => ?_)
  obtain ⟨q2, q3, q4, q5, q6, q7, rfl, rfl⟩ := hpo
  refine g_as (pc' := 12) (lv' := [(0, .ref h0)]) (st' := [.ref q1, .ref h0]) (ws' := [(h0, .inr (6, [.null, .int 0, .null, .null, .null, .null, .null, .null, .int 0, .null, .null, .null])), (q1, .inr (10, [.ref q2, .ref q3, .ref q4, .ref q5, .ref q6, .ref q7, .int 0, .int 0]))]) rfl rfl rfl rfl ?_
  refine g_putF (pc := 12) X hnm inlX6 tyX6_ok nmX6 0 rfl rfl 0 (by decide) mw_6_11 rfl rfl rfl rfl (Nat.le_of_ble_eq_true rfl) (ws' := [(h0, .inr (6, [.ref q1, .int 0, .null, .null, .null, .null, .null, .null, .int 0, .null, .null, .null])), (q1, .inr (10, [.ref q2, .ref q3, .ref q4, .ref q5, .ref q6, .ref q7, .int 0, .int 0]))]) rfl dX6_init_12 ?_
  refine g_aload_n (pc := 15) X 0 rfl dX6_init_15 ?_
  refine g_bipush (pc := 16) X 8 (by decide) dX6_init_16 ?_
  refine g_newz (pc := 18) X 8 mw_5_18 (by decide) (by decide) (by decide) (by decide) (by decide) dX6_init_18 (fun q8 => ?_)
  refine g_as (pc' := 20) (lv' := [(0, .ref h0)]) (st' := [.ref q8, .ref h0]) (ws' := [(h0, .inr (6, [.ref q1, .int 0, .null, .null, .null, .null, .null, .null, .int 0, .null, .null, .null])), (q1, .inr (10, [.ref q2, .ref q3, .ref q4, .ref q5, .ref q6, .ref q7, .int 0, .int 0])), (q8, .inl (Z.2.1 2, 8, .inl (fun _ => 0)))]) rfl rfl rfl rfl ?_
  refine g_putF (pc := 20) X hnm inlX6 tyX6_ok nmX6 0 rfl rfl 2 (by decide) mw_6_12 rfl rfl rfl rfl (Nat.le_of_ble_eq_true rfl) (ws' := [(h0, .inr (6, [.ref q1, .int 0, .ref q8, .null, .null, .null, .null, .null, .int 0, .null, .null, .null])), (q1, .inr (10, [.ref q2, .ref q3, .ref q4, .ref q5, .ref q6, .ref q7, .int 0, .int 0])), (q8, .inl (Z.2.1 2, 8, .inl (fun _ => 0)))]) rfl dX6_init_20 ?_
  refine g_ws (ws' := [(h0, .inr (6, [.ref q1, .int 0, .ref q8, .null, .null, .null, .null, .null, .int 0, .null, .null, .null])), (q1, .inr (10, [.ref q2, .ref q3, .ref q4, .ref q5, .ref q6, .ref q7, .int 0, .int 0]))]) [0, 1] (by decide) rfl ?_
  refine g_aload_n (pc := 23) X 0 rfl dX6_init_23 ?_
  refine g_bipush (pc := 24) X 8 (by decide) dX6_init_24 ?_
  refine g_newi (pc := 26) X 8 mw_3_11 (by decide) (by decide) (by decide) (by decide) (by decide) dX6_init_26 (fun q9 => ?_)
  refine g_as (pc' := 28) (lv' := [(0, .ref h0)]) (st' := [.ref q9, .ref h0]) (ws' := [(h0, .inr (6, [.ref q1, .int 0, .ref q8, .null, .null, .null, .null, .null, .int 0, .null, .null, .null])), (q1, .inr (10, [.ref q2, .ref q3, .ref q4, .ref q5, .ref q6, .ref q7, .int 0, .int 0])), (q9, .inl (Z.2.1 0, 8, .inl (fun _ => 0)))]) rfl rfl rfl rfl ?_
  refine g_putF (pc := 28) X hnm inlX6 tyX6_ok nmX6 0 rfl rfl 3 (by decide) mw_6_13 rfl rfl rfl rfl (Nat.le_of_ble_eq_true rfl) (ws' := [(h0, .inr (6, [.ref q1, .int 0, .ref q8, .ref q9, .null, .null, .null, .null, .int 0, .null, .null, .null])), (q1, .inr (10, [.ref q2, .ref q3, .ref q4, .ref q5, .ref q6, .ref q7, .int 0, .int 0])), (q9, .inl (Z.2.1 0, 8, .inl (fun _ => 0)))]) rfl dX6_init_28 ?_
  refine g_ws (ws' := [(h0, .inr (6, [.ref q1, .int 0, .ref q8, .ref q9, .null, .null, .null, .null, .int 0, .null, .null, .null])), (q1, .inr (10, [.ref q2, .ref q3, .ref q4, .ref q5, .ref q6, .ref q7, .int 0, .int 0]))]) [0, 1] (by decide) rfl ?_
  refine g_aload_n (pc := 31) X 0 rfl dX6_init_31 ?_
  refine g_bipush (pc := 32) X 8 (by decide) dX6_init_32 ?_
  refine g_newi (pc := 34) X 8 mw_3_11 (by decide) (by decide) (by decide) (by decide) (by decide) dX6_init_34 (fun q10 => ?_)
  refine g_as (pc' := 36) (lv' := [(0, .ref h0)]) (st' := [.ref q10, .ref h0]) (ws' := [(h0, .inr (6, [.ref q1, .int 0, .ref q8, .ref q9, .null, .null, .null, .null, .int 0, .null, .null, .null])), (q1, .inr (10, [.ref q2, .ref q3, .ref q4, .ref q5, .ref q6, .ref q7, .int 0, .int 0])), (q10, .inl (Z.2.1 0, 8, .inl (fun _ => 0)))]) rfl rfl rfl rfl ?_
  refine g_putF (pc := 36) X hnm inlX6 tyX6_ok nmX6 0 rfl rfl 4 (by decide) mw_6_14 rfl rfl rfl rfl (Nat.le_of_ble_eq_true rfl) (ws' := [(h0, .inr (6, [.ref q1, .int 0, .ref q8, .ref q9, .ref q10, .null, .null, .null, .int 0, .null, .null, .null])), (q1, .inr (10, [.ref q2, .ref q3, .ref q4, .ref q5, .ref q6, .ref q7, .int 0, .int 0])), (q10, .inl (Z.2.1 0, 8, .inl (fun _ => 0)))]) rfl dX6_init_36 ?_
  refine g_ws (ws' := [(h0, .inr (6, [.ref q1, .int 0, .ref q8, .ref q9, .ref q10, .null, .null, .null, .int 0, .null, .null, .null])), (q1, .inr (10, [.ref q2, .ref q3, .ref q4, .ref q5, .ref q6, .ref q7, .int 0, .int 0]))]) [0, 1] (by decide) rfl ?_
  refine g_aload_n (pc := 39) X 0 rfl dX6_init_39 ?_
  refine g_bipush (pc := 40) X 8 (by decide) dX6_init_40 ?_
  refine g_newi (pc := 42) X 8 mw_3_11 (by decide) (by decide) (by decide) (by decide) (by decide) dX6_init_42 (fun q11 => ?_)
  refine g_as (pc' := 44) (lv' := [(0, .ref h0)]) (st' := [.ref q11, .ref h0]) (ws' := [(h0, .inr (6, [.ref q1, .int 0, .ref q8, .ref q9, .ref q10, .null, .null, .null, .int 0, .null, .null, .null])), (q1, .inr (10, [.ref q2, .ref q3, .ref q4, .ref q5, .ref q6, .ref q7, .int 0, .int 0])), (q11, .inl (Z.2.1 0, 8, .inl (fun _ => 0)))]) rfl rfl rfl rfl ?_
  refine g_putF (pc := 44) X hnm inlX6 tyX6_ok nmX6 0 rfl rfl 5 (by decide) mw_6_15 rfl rfl rfl rfl (Nat.le_of_ble_eq_true rfl) (ws' := [(h0, .inr (6, [.ref q1, .int 0, .ref q8, .ref q9, .ref q10, .ref q11, .null, .null, .int 0, .null, .null, .null])), (q1, .inr (10, [.ref q2, .ref q3, .ref q4, .ref q5, .ref q6, .ref q7, .int 0, .int 0])), (q11, .inl (Z.2.1 0, 8, .inl (fun _ => 0)))]) rfl dX6_init_44 ?_
  refine g_ws (ws' := [(h0, .inr (6, [.ref q1, .int 0, .ref q8, .ref q9, .ref q10, .ref q11, .null, .null, .int 0, .null, .null, .null])), (q1, .inr (10, [.ref q2, .ref q3, .ref q4, .ref q5, .ref q6, .ref q7, .int 0, .int 0]))]) [0, 1] (by decide) rfl ?_
  refine g_aload_n (pc := 47) X 0 rfl dX6_init_47 ?_
  refine g_bipush (pc := 48) X 8 (by decide) dX6_init_48 ?_
  refine g_newi (pc := 50) X 8 mw_3_11 (by decide) (by decide) (by decide) (by decide) (by decide) dX6_init_50 (fun q12 => ?_)
  refine g_as (pc' := 52) (lv' := [(0, .ref h0)]) (st' := [.ref q12, .ref h0]) (ws' := [(h0, .inr (6, [.ref q1, .int 0, .ref q8, .ref q9, .ref q10, .ref q11, .null, .null, .int 0, .null, .null, .null])), (q1, .inr (10, [.ref q2, .ref q3, .ref q4, .ref q5, .ref q6, .ref q7, .int 0, .int 0])), (q12, .inl (Z.2.1 0, 8, .inl (fun _ => 0)))]) rfl rfl rfl rfl ?_
  refine g_putF (pc := 52) X hnm inlX6 tyX6_ok nmX6 0 rfl rfl 6 (by decide) mw_6_16 rfl rfl rfl rfl (Nat.le_of_ble_eq_true rfl) (ws' := [(h0, .inr (6, [.ref q1, .int 0, .ref q8, .ref q9, .ref q10, .ref q11, .ref q12, .null, .int 0, .null, .null, .null])), (q1, .inr (10, [.ref q2, .ref q3, .ref q4, .ref q5, .ref q6, .ref q7, .int 0, .int 0])), (q12, .inl (Z.2.1 0, 8, .inl (fun _ => 0)))]) rfl dX6_init_52 ?_
  refine g_ws (ws' := [(h0, .inr (6, [.ref q1, .int 0, .ref q8, .ref q9, .ref q10, .ref q11, .ref q12, .null, .int 0, .null, .null, .null])), (q1, .inr (10, [.ref q2, .ref q3, .ref q4, .ref q5, .ref q6, .ref q7, .int 0, .int 0]))]) [0, 1] (by decide) rfl ?_
  refine g_aload_n (pc := 55) X 0 rfl dX6_init_55 ?_
  refine g_bipush (pc := 56) X 8 (by decide) dX6_init_56 ?_
  refine g_newi (pc := 58) X 8 mw_3_11 (by decide) (by decide) (by decide) (by decide) (by decide) dX6_init_58 (fun q13 => ?_)
  refine g_as (pc' := 60) (lv' := [(0, .ref h0)]) (st' := [.ref q13, .ref h0]) (ws' := [(h0, .inr (6, [.ref q1, .int 0, .ref q8, .ref q9, .ref q10, .ref q11, .ref q12, .null, .int 0, .null, .null, .null])), (q1, .inr (10, [.ref q2, .ref q3, .ref q4, .ref q5, .ref q6, .ref q7, .int 0, .int 0])), (q13, .inl (Z.2.1 0, 8, .inl (fun _ => 0)))]) rfl rfl rfl rfl ?_
  refine g_putF (pc := 60) X hnm inlX6 tyX6_ok nmX6 0 rfl rfl 7 (by decide) mw_6_17 rfl rfl rfl rfl (Nat.le_of_ble_eq_true rfl) (ws' := [(h0, .inr (6, [.ref q1, .int 0, .ref q8, .ref q9, .ref q10, .ref q11, .ref q12, .ref q13, .int 0, .null, .null, .null])), (q1, .inr (10, [.ref q2, .ref q3, .ref q4, .ref q5, .ref q6, .ref q7, .int 0, .int 0])), (q13, .inl (Z.2.1 0, 8, .inl (fun _ => 0)))]) rfl dX6_init_60 ?_
  refine g_ws (ws' := [(h0, .inr (6, [.ref q1, .int 0, .ref q8, .ref q9, .ref q10, .ref q11, .ref q12, .ref q13, .int 0, .null, .null, .null])), (q1, .inr (10, [.ref q2, .ref q3, .ref q4, .ref q5, .ref q6, .ref q7, .int 0, .int 0]))]) [0, 1] (by decide) rfl ?_
  refine g_aload_n (pc := 63) X 0 rfl dX6_init_63 ?_
  refine g_iconst (pc := 64) X 4 (by decide) dX6_init_64 ?_
  refine g_newi (pc := 65) X 4 mw_3_11 (by decide) (by decide) (by decide) (by decide) (by decide) dX6_init_65 (fun q14 => ?_)
  refine g_as (pc' := 67) (lv' := [(0, .ref h0)]) (st' := [.ref q14, .ref h0]) (ws' := [(h0, .inr (6, [.ref q1, .int 0, .ref q8, .ref q9, .ref q10, .ref q11, .ref q12, .ref q13, .int 0, .null, .null, .null])), (q1, .inr (10, [.ref q2, .ref q3, .ref q4, .ref q5, .ref q6, .ref q7, .int 0, .int 0])), (q14, .inl (Z.2.1 0, 4, .inl (fun _ => 0)))]) rfl rfl rfl rfl ?_
  refine g_putF (pc := 67) X hnm inlX6 tyX6_ok nmX6 0 rfl rfl 9 (by decide) mw_6_18 rfl rfl rfl rfl (Nat.le_of_ble_eq_true rfl) (ws' := [(h0, .inr (6, [.ref q1, .int 0, .ref q8, .ref q9, .ref q10, .ref q11, .ref q12, .ref q13, .int 0, .ref q14, .null, .null])), (q1, .inr (10, [.ref q2, .ref q3, .ref q4, .ref q5, .ref q6, .ref q7, .int 0, .int 0])), (q14, .inl (Z.2.1 0, 4, .inl (fun _ => 0)))]) rfl dX6_init_67 ?_
  refine g_ws (ws' := [(h0, .inr (6, [.ref q1, .int 0, .ref q8, .ref q9, .ref q10, .ref q11, .ref q12, .ref q13, .int 0, .ref q14, .null, .null])), (q1, .inr (10, [.ref q2, .ref q3, .ref q4, .ref q5, .ref q6, .ref q7, .int 0, .int 0]))]) [0, 1] (by decide) rfl ?_
  refine g_aload_n (pc := 70) X 0 rfl dX6_init_70 ?_
  refine g_iconst (pc := 71) X 4 (by decide) dX6_init_71 ?_
  refine g_newi (pc := 72) X 4 mw_3_11 (by decide) (by decide) (by decide) (by decide) (by decide) dX6_init_72 (fun q15 => ?_)
  refine g_as (pc' := 74) (lv' := [(0, .ref h0)]) (st' := [.ref q15, .ref h0]) (ws' := [(h0, .inr (6, [.ref q1, .int 0, .ref q8, .ref q9, .ref q10, .ref q11, .ref q12, .ref q13, .int 0, .ref q14, .null, .null])), (q1, .inr (10, [.ref q2, .ref q3, .ref q4, .ref q5, .ref q6, .ref q7, .int 0, .int 0])), (q15, .inl (Z.2.1 0, 4, .inl (fun _ => 0)))]) rfl rfl rfl rfl ?_
  refine g_putF (pc := 74) X hnm inlX6 tyX6_ok nmX6 0 rfl rfl 10 (by decide) mw_6_19 rfl rfl rfl rfl (Nat.le_of_ble_eq_true rfl) (ws' := [(h0, .inr (6, [.ref q1, .int 0, .ref q8, .ref q9, .ref q10, .ref q11, .ref q12, .ref q13, .int 0, .ref q14, .ref q15, .null])), (q1, .inr (10, [.ref q2, .ref q3, .ref q4, .ref q5, .ref q6, .ref q7, .int 0, .int 0])), (q15, .inl (Z.2.1 0, 4, .inl (fun _ => 0)))]) rfl dX6_init_74 ?_
  refine g_ws (ws' := [(h0, .inr (6, [.ref q1, .int 0, .ref q8, .ref q9, .ref q10, .ref q11, .ref q12, .ref q13, .int 0, .ref q14, .ref q15, .null])), (q1, .inr (10, [.ref q2, .ref q3, .ref q4, .ref q5, .ref q6, .ref q7, .int 0, .int 0]))]) [0, 1] (by decide) rfl ?_
  refine g_aload_n (pc := 77) X 0 rfl dX6_init_77 ?_
  refine g_iconst (pc := 78) X 4 (by decide) dX6_init_78 ?_
  refine g_newi (pc := 79) X 4 mw_3_11 (by decide) (by decide) (by decide) (by decide) (by decide) dX6_init_79 (fun q16 => ?_)
  refine g_as (pc' := 81) (lv' := [(0, .ref h0)]) (st' := [.ref q16, .ref h0]) (ws' := [(h0, .inr (6, [.ref q1, .int 0, .ref q8, .ref q9, .ref q10, .ref q11, .ref q12, .ref q13, .int 0, .ref q14, .ref q15, .null])), (q1, .inr (10, [.ref q2, .ref q3, .ref q4, .ref q5, .ref q6, .ref q7, .int 0, .int 0])), (q16, .inl (Z.2.1 0, 4, .inl (fun _ => 0)))]) rfl rfl rfl rfl ?_
  refine g_putF (pc := 81) X hnm inlX6 tyX6_ok nmX6 0 rfl rfl 11 (by decide) mw_6_20 rfl rfl rfl rfl (Nat.le_of_ble_eq_true rfl) (ws' := [(h0, .inr (6, [.ref q1, .int 0, .ref q8, .ref q9, .ref q10, .ref q11, .ref q12, .ref q13, .int 0, .ref q14, .ref q15, .ref q16])), (q1, .inr (10, [.ref q2, .ref q3, .ref q4, .ref q5, .ref q6, .ref q7, .int 0, .int 0])), (q16, .inl (Z.2.1 0, 4, .inl (fun _ => 0)))]) rfl dX6_init_81 ?_
  refine g_ws (ws' := [(h0, .inr (6, [.ref q1, .int 0, .ref q8, .ref q9, .ref q10, .ref q11, .ref q12, .ref q13, .int 0, .ref q14, .ref q15, .ref q16])), (q1, .inr (10, [.ref q2, .ref q3, .ref q4, .ref q5, .ref q6, .ref q7, .int 0, .int 0]))]) [0, 1] (by decide) rfl ?_
  exact g_vret (pc := 84) X hA (⟨q1, q2, q3, q4, q5, q6, q7, q8, q9, q10, q11, q12, q13, q14, q15, q16, rfl, rfl⟩) (by decide) (by decide) dX6_init_84
