set_option maxHeartbeats 4000000 in
set_option maxRecDepth 100000 in
theorem c_space_20_0 (l : Launch) (Z : gZ) (t0 : Nat) (t_bytes : Nat) (t_kinds : Nat) (t_places : Nat) (t_values : Nat) : Con l Z yX9_hasSpaceFor cX9_hasSpaceFor 2 (some .boolean) 0 0 0 0 [.ref t0, .int 20] [(t0, .inr (9, [.ref t_bytes, .int 0, .int 0, .ref t_kinds, .ref t_places, .ref t_values]))] (fun r w' => r = some (.int 1) ∧ w' = [(t0, .inr (9, [.ref t_bytes, .int 0, .int 0, .ref t_kinds, .ref t_places, .ref t_values]))]) := by
  refine enter (by decide) (Nat.le_of_ble_eq_true rfl) ?_
  intro p e s m args below meth c A X hnm hA
  have X : Cx p s m args meth c cX9_hasSpaceFor 2 (some .boolean) RX9 Z A := X
  refine g_as (pc' := 0) (lv' := [(0, .ref t0), (1, .int 20)]) (st' := []) (ws' := [(t0, .inr (9, [.ref t_bytes, .int 0, .int 0, .ref t_kinds, .ref t_places, .ref t_values]))]) rfl rfl rfl rfl ?_
  refine g_iload_n (pc := 0) X 1 rfl dX9_hasSpaceFor_0 ?_
  refine g_if_lt (pc := 1) X 20 (by decide) dX9_hasSpaceFor_1 (fun h => absurd h (by decide)) (fun b1 => ?_)
  refine g_iload_n (pc := 4) X 1 rfl dX9_hasSpaceFor_4 ?_
  refine g_sipush (pc := 5) X 400 (by decide) dX9_hasSpaceFor_5 ?_
  refine g_aload_n (pc := 8) X 0 rfl dX9_hasSpaceFor_8 ?_
  refine g_get (pc := 9) X inlX9 0 rfl rfl 1 (by decide) mw_10_8 rfl dX9_hasSpaceFor_9 ?_
  refine g_isub (pc := 12) X dX9_hasSpaceFor_12 ?_
  refine g_lit (y := 400) (by decide) ?_
  refine g_icmp_gt (pc := 13) X 20 (by decide) dX9_hasSpaceFor_13 (fun h => absurd h (by decide)) (fun b13 => ?_)
  refine g_iconst (pc := 16) X 1 (by decide) dX9_hasSpaceFor_16 ?_
  refine g_goto (pc := 17) X 21 (by decide) dX9_hasSpaceFor_17 ?_
  exact g_zret (pc := 21) X hA (rfl) (⟨rfl, rfl⟩) (by decide) (by decide) dX9_hasSpaceFor_21

set_option maxHeartbeats 4000000 in
set_option maxRecDepth 100000 in
theorem c_space_4_0 (l : Launch) (Z : gZ) (t0 : Nat) (t_bytes : Nat) (t_kinds : Nat) (t_places : Nat) (t_values : Nat) : Con l Z yX9_hasSpaceFor cX9_hasSpaceFor 2 (some .boolean) 0 0 0 0 [.ref t0, .int 4] [(t0, .inr (9, [.ref t_bytes, .int 0, .int 0, .ref t_kinds, .ref t_places, .ref t_values]))] (fun r w' => r = some (.int 1) ∧ w' = [(t0, .inr (9, [.ref t_bytes, .int 0, .int 0, .ref t_kinds, .ref t_places, .ref t_values]))]) := by
  refine enter (by decide) (Nat.le_of_ble_eq_true rfl) ?_
  intro p e s m args below meth c A X hnm hA
  have X : Cx p s m args meth c cX9_hasSpaceFor 2 (some .boolean) RX9 Z A := X
  refine g_as (pc' := 0) (lv' := [(0, .ref t0), (1, .int 4)]) (st' := []) (ws' := [(t0, .inr (9, [.ref t_bytes, .int 0, .int 0, .ref t_kinds, .ref t_places, .ref t_values]))]) rfl rfl rfl rfl ?_
  refine g_iload_n (pc := 0) X 1 rfl dX9_hasSpaceFor_0 ?_
  refine g_if_lt (pc := 1) X 20 (by decide) dX9_hasSpaceFor_1 (fun h => absurd h (by decide)) (fun b1 => ?_)
  refine g_iload_n (pc := 4) X 1 rfl dX9_hasSpaceFor_4 ?_
  refine g_sipush (pc := 5) X 400 (by decide) dX9_hasSpaceFor_5 ?_
  refine g_aload_n (pc := 8) X 0 rfl dX9_hasSpaceFor_8 ?_
  refine g_get (pc := 9) X inlX9 0 rfl rfl 1 (by decide) mw_10_8 rfl dX9_hasSpaceFor_9 ?_
  refine g_isub (pc := 12) X dX9_hasSpaceFor_12 ?_
  refine g_lit (y := 400) (by decide) ?_
  refine g_icmp_gt (pc := 13) X 20 (by decide) dX9_hasSpaceFor_13 (fun h => absurd h (by decide)) (fun b13 => ?_)
  refine g_iconst (pc := 16) X 1 (by decide) dX9_hasSpaceFor_16 ?_
  refine g_goto (pc := 17) X 21 (by decide) dX9_hasSpaceFor_17 ?_
  exact g_zret (pc := 21) X hA (rfl) (⟨rfl, rfl⟩) (by decide) (by decide) dX9_hasSpaceFor_21

set_option maxHeartbeats 4000000 in
set_option maxRecDepth 100000 in
theorem c_space_4_4 (l : Launch) (Z : gZ) (t0 : Nat) (t_bytes : Nat) (t_kinds : Nat) (t_places : Nat) (t_values : Nat) : Con l Z yX9_hasSpaceFor cX9_hasSpaceFor 2 (some .boolean) 0 0 0 0 [.ref t0, .int 4] [(t0, .inr (9, [.ref t_bytes, .int 4, .int 0, .ref t_kinds, .ref t_places, .ref t_values]))] (fun r w' => r = some (.int 1) ∧ w' = [(t0, .inr (9, [.ref t_bytes, .int 4, .int 0, .ref t_kinds, .ref t_places, .ref t_values]))]) := by
  refine enter (by decide) (Nat.le_of_ble_eq_true rfl) ?_
  intro p e s m args below meth c A X hnm hA
  have X : Cx p s m args meth c cX9_hasSpaceFor 2 (some .boolean) RX9 Z A := X
  refine g_as (pc' := 0) (lv' := [(0, .ref t0), (1, .int 4)]) (st' := []) (ws' := [(t0, .inr (9, [.ref t_bytes, .int 4, .int 0, .ref t_kinds, .ref t_places, .ref t_values]))]) rfl rfl rfl rfl ?_
  refine g_iload_n (pc := 0) X 1 rfl dX9_hasSpaceFor_0 ?_
  refine g_if_lt (pc := 1) X 20 (by decide) dX9_hasSpaceFor_1 (fun h => absurd h (by decide)) (fun b1 => ?_)
  refine g_iload_n (pc := 4) X 1 rfl dX9_hasSpaceFor_4 ?_
  refine g_sipush (pc := 5) X 400 (by decide) dX9_hasSpaceFor_5 ?_
  refine g_aload_n (pc := 8) X 0 rfl dX9_hasSpaceFor_8 ?_
  refine g_get (pc := 9) X inlX9 0 rfl rfl 1 (by decide) mw_10_8 rfl dX9_hasSpaceFor_9 ?_
  refine g_isub (pc := 12) X dX9_hasSpaceFor_12 ?_
  refine g_lit (y := 396) (by decide) ?_
  refine g_icmp_gt (pc := 13) X 20 (by decide) dX9_hasSpaceFor_13 (fun h => absurd h (by decide)) (fun b13 => ?_)
  refine g_iconst (pc := 16) X 1 (by decide) dX9_hasSpaceFor_16 ?_
  refine g_goto (pc := 17) X 21 (by decide) dX9_hasSpaceFor_17 ?_
  exact g_zret (pc := 21) X hA (rfl) (⟨rfl, rfl⟩) (by decide) (by decide) dX9_hasSpaceFor_21

set_option maxHeartbeats 4000000 in
set_option maxRecDepth 100000 in
theorem c_space_4_8 (l : Launch) (Z : gZ) (t0 : Nat) (t_bytes : Nat) (t_kinds : Nat) (t_places : Nat) (t_values : Nat) : Con l Z yX9_hasSpaceFor cX9_hasSpaceFor 2 (some .boolean) 0 0 0 0 [.ref t0, .int 4] [(t0, .inr (9, [.ref t_bytes, .int 8, .int 0, .ref t_kinds, .ref t_places, .ref t_values]))] (fun r w' => r = some (.int 1) ∧ w' = [(t0, .inr (9, [.ref t_bytes, .int 8, .int 0, .ref t_kinds, .ref t_places, .ref t_values]))]) := by
  refine enter (by decide) (Nat.le_of_ble_eq_true rfl) ?_
  intro p e s m args below meth c A X hnm hA
  have X : Cx p s m args meth c cX9_hasSpaceFor 2 (some .boolean) RX9 Z A := X
  refine g_as (pc' := 0) (lv' := [(0, .ref t0), (1, .int 4)]) (st' := []) (ws' := [(t0, .inr (9, [.ref t_bytes, .int 8, .int 0, .ref t_kinds, .ref t_places, .ref t_values]))]) rfl rfl rfl rfl ?_
  refine g_iload_n (pc := 0) X 1 rfl dX9_hasSpaceFor_0 ?_
  refine g_if_lt (pc := 1) X 20 (by decide) dX9_hasSpaceFor_1 (fun h => absurd h (by decide)) (fun b1 => ?_)
  refine g_iload_n (pc := 4) X 1 rfl dX9_hasSpaceFor_4 ?_
  refine g_sipush (pc := 5) X 400 (by decide) dX9_hasSpaceFor_5 ?_
  refine g_aload_n (pc := 8) X 0 rfl dX9_hasSpaceFor_8 ?_
  refine g_get (pc := 9) X inlX9 0 rfl rfl 1 (by decide) mw_10_8 rfl dX9_hasSpaceFor_9 ?_
  refine g_isub (pc := 12) X dX9_hasSpaceFor_12 ?_
  refine g_lit (y := 392) (by decide) ?_
  refine g_icmp_gt (pc := 13) X 20 (by decide) dX9_hasSpaceFor_13 (fun h => absurd h (by decide)) (fun b13 => ?_)
  refine g_iconst (pc := 16) X 1 (by decide) dX9_hasSpaceFor_16 ?_
  refine g_goto (pc := 17) X 21 (by decide) dX9_hasSpaceFor_17 ?_
  exact g_zret (pc := 21) X hA (rfl) (⟨rfl, rfl⟩) (by decide) (by decide) dX9_hasSpaceFor_21

set_option maxHeartbeats 4000000 in
set_option maxRecDepth 100000 in
theorem c_space_4_12 (l : Launch) (Z : gZ) (t0 : Nat) (t_bytes : Nat) (t_kinds : Nat) (t_places : Nat) (t_values : Nat) : Con l Z yX9_hasSpaceFor cX9_hasSpaceFor 2 (some .boolean) 0 0 0 0 [.ref t0, .int 4] [(t0, .inr (9, [.ref t_bytes, .int 12, .int 0, .ref t_kinds, .ref t_places, .ref t_values]))] (fun r w' => r = some (.int 1) ∧ w' = [(t0, .inr (9, [.ref t_bytes, .int 12, .int 0, .ref t_kinds, .ref t_places, .ref t_values]))]) := by
  refine enter (by decide) (Nat.le_of_ble_eq_true rfl) ?_
  intro p e s m args below meth c A X hnm hA
  have X : Cx p s m args meth c cX9_hasSpaceFor 2 (some .boolean) RX9 Z A := X
  refine g_as (pc' := 0) (lv' := [(0, .ref t0), (1, .int 4)]) (st' := []) (ws' := [(t0, .inr (9, [.ref t_bytes, .int 12, .int 0, .ref t_kinds, .ref t_places, .ref t_values]))]) rfl rfl rfl rfl ?_
  refine g_iload_n (pc := 0) X 1 rfl dX9_hasSpaceFor_0 ?_
  refine g_if_lt (pc := 1) X 20 (by decide) dX9_hasSpaceFor_1 (fun h => absurd h (by decide)) (fun b1 => ?_)
  refine g_iload_n (pc := 4) X 1 rfl dX9_hasSpaceFor_4 ?_
  refine g_sipush (pc := 5) X 400 (by decide) dX9_hasSpaceFor_5 ?_
  refine g_aload_n (pc := 8) X 0 rfl dX9_hasSpaceFor_8 ?_
  refine g_get (pc := 9) X inlX9 0 rfl rfl 1 (by decide) mw_10_8 rfl dX9_hasSpaceFor_9 ?_
  refine g_isub (pc := 12) X dX9_hasSpaceFor_12 ?_
  refine g_lit (y := 388) (by decide) ?_
  refine g_icmp_gt (pc := 13) X 20 (by decide) dX9_hasSpaceFor_13 (fun h => absurd h (by decide)) (fun b13 => ?_)
  refine g_iconst (pc := 16) X 1 (by decide) dX9_hasSpaceFor_16 ?_
  refine g_goto (pc := 17) X 21 (by decide) dX9_hasSpaceFor_17 ?_
  exact g_zret (pc := 21) X hA (rfl) (⟨rfl, rfl⟩) (by decide) (by decide) dX9_hasSpaceFor_21

set_option maxHeartbeats 4000000 in
set_option maxRecDepth 100000 in
theorem c_space_4_16 (l : Launch) (Z : gZ) (t0 : Nat) (t_bytes : Nat) (t_kinds : Nat) (t_places : Nat) (t_values : Nat) : Con l Z yX9_hasSpaceFor cX9_hasSpaceFor 2 (some .boolean) 0 0 0 0 [.ref t0, .int 4] [(t0, .inr (9, [.ref t_bytes, .int 16, .int 0, .ref t_kinds, .ref t_places, .ref t_values]))] (fun r w' => r = some (.int 1) ∧ w' = [(t0, .inr (9, [.ref t_bytes, .int 16, .int 0, .ref t_kinds, .ref t_places, .ref t_values]))]) := by
  refine enter (by decide) (Nat.le_of_ble_eq_true rfl) ?_
  intro p e s m args below meth c A X hnm hA
  have X : Cx p s m args meth c cX9_hasSpaceFor 2 (some .boolean) RX9 Z A := X
  refine g_as (pc' := 0) (lv' := [(0, .ref t0), (1, .int 4)]) (st' := []) (ws' := [(t0, .inr (9, [.ref t_bytes, .int 16, .int 0, .ref t_kinds, .ref t_places, .ref t_values]))]) rfl rfl rfl rfl ?_
  refine g_iload_n (pc := 0) X 1 rfl dX9_hasSpaceFor_0 ?_
  refine g_if_lt (pc := 1) X 20 (by decide) dX9_hasSpaceFor_1 (fun h => absurd h (by decide)) (fun b1 => ?_)
  refine g_iload_n (pc := 4) X 1 rfl dX9_hasSpaceFor_4 ?_
  refine g_sipush (pc := 5) X 400 (by decide) dX9_hasSpaceFor_5 ?_
  refine g_aload_n (pc := 8) X 0 rfl dX9_hasSpaceFor_8 ?_
  refine g_get (pc := 9) X inlX9 0 rfl rfl 1 (by decide) mw_10_8 rfl dX9_hasSpaceFor_9 ?_
  refine g_isub (pc := 12) X dX9_hasSpaceFor_12 ?_
  refine g_lit (y := 384) (by decide) ?_
  refine g_icmp_gt (pc := 13) X 20 (by decide) dX9_hasSpaceFor_13 (fun h => absurd h (by decide)) (fun b13 => ?_)
  refine g_iconst (pc := 16) X 1 (by decide) dX9_hasSpaceFor_16 ?_
  refine g_goto (pc := 17) X 21 (by decide) dX9_hasSpaceFor_17 ?_
  exact g_zret (pc := 21) X hA (rfl) (⟨rfl, rfl⟩) (by decide) (by decide) dX9_hasSpaceFor_21

set_option maxHeartbeats 4000000 in
set_option maxRecDepth 100000 in
theorem c_add_0 (l : Launch) (Z : gZ) (t0 : Nat) (t_bytes : Nat) (t_kinds : Nat) (t_places : Nat) (t_values : Nat) (f : Nat → Int32) (x1 : Int32) : Con l Z yX9_add cX9_add 3 none 1 21 0 0 [.ref t0, .int x1] [(t0, .inr (9, [.ref t_bytes, .int 0, .int 0, .ref t_kinds, .ref t_places, .ref t_values])), (t_bytes, .inl (Z.2.1 0, 400, .inl f))] (fun r w' => ∃ (f4 : Nat → Int32), r = none ∧ w' = [(t_bytes, .inl (Z.2.1 0, 400, .inl f4)), (t0, .inr (9, [.ref t_bytes, .int 4, .int 0, .ref t_kinds, .ref t_places, .ref t_values]))]) := by
  refine enter (by decide) (Nat.le_of_ble_eq_true rfl) ?_
  intro p e s m args below meth c A X hnm hA
  have X : Cx p s m args meth c cX9_add 3 none RX9 Z A := X
  refine g_as (pc' := 0) (lv' := [(0, .ref t0), (1, .int x1)]) (st' := []) (ws' := [(t0, .inr (9, [.ref t_bytes, .int 0, .int 0, .ref t_kinds, .ref t_places, .ref t_values])), (t_bytes, .inl (Z.2.1 0, 400, .inl f))]) rfl rfl rfl rfl ?_
  refine g_aload_n (pc := 0) X 0 rfl dX9_add_0 ?_
  refine g_iconst (pc := 1) X 4 (by decide) dX9_add_1 ?_
  refine g_callV (pc := 2) X (c_space_4_0 l Z t0 t_bytes t_kinds t_places t_values) iM_X9_hasSpaceFor mw_10_13 mw_10_5 mw_10_6 0 rfl rfl [0] [1] rfl (wr := [(t_bytes, .inl (Z.2.1 0, 400, .inl f))]) rfl (by decide) rfl rfl (Nat.le_of_ble_eq_true rfl) (by decide) dX9_add_2 (fun r w' hpo => ?_)
  obtain ⟨rfl, rfl⟩ := hpo
  refine g_as (pc' := 5) (lv' := [(0, .ref t0), (1, .int x1)]) (st' := [.int 1]) (ws' := [(t_bytes, .inl (Z.2.1 0, 400, .inl f)), (t0, .inr (9, [.ref t_bytes, .int 0, .int 0, .ref t_kinds, .ref t_places, .ref t_values]))]) rfl rfl rfl rfl ?_
  refine g_if_ne (pc := 5) X 9 (by decide) dX9_add_5 (fun b5 => ?_) (fun h => absurd h (by decide))
  refine g_bipush (pc := 9) X 24 (by decide) dX9_add_9 ?_
  refine g_istore_n (pc := 11) X (i := 2) rfl (by decide) (lv' := [(2, .int 24), (0, .ref t0), (1, .int x1)]) rfl dX9_add_11 ?_
  refine g_iload_n (pc := 12) X 0 rfl dX9_add_12 ?_
  refine g_if_lt (pc := 13) X 48 (by decide) dX9_add_13 (fun h => absurd h (by decide)) (fun b13 => ?_)
  refine g_aload_n (pc := 16) X 1 rfl dX9_add_16 ?_
  refine g_get (pc := 17) X inlX9 1 rfl rfl 0 (by decide) mw_3_12 rfl dX9_add_17 ?_
  refine g_aload_n (pc := 20) X 1 rfl dX9_add_20 ?_
  refine g_get (pc := 21) X inlX9 1 rfl rfl 1 (by decide) mw_10_8 rfl dX9_add_21 ?_
  refine g_iload_n (pc := 24) X 2 rfl dX9_add_24 ?_
  refine g_iload_n (pc := 25) X 0 rfl dX9_add_25 ?_
  refine g_iushr (pc := 26) X dX9_add_26 ?_
  refine g_sipush (pc := 27) X 255 (by decide) dX9_add_27 ?_
  refine g_iand (pc := 30) X dX9_add_30 ?_
  refine g_iastF (pc := 31) X 0 rfl (vp_in_iff.mpr (by decide)) (ws' := fun f1 => [(t_bytes, .inl (Z.2.1 0, 400, .inl f1)), (t0, .inr (9, [.ref t_bytes, .int 0, .int 0, .ref t_kinds, .ref t_places, .ref t_values]))]) (fun _ => rfl) dX9_add_31 (fun f1 => ?_)
  refine g_aload_n (pc := 32) X 1 rfl dX9_add_32 ?_
  refine g_dup (pc := 33) X rfl dX9_add_33 ?_
  refine g_get (pc := 34) X inlX9 1 rfl rfl 1 (by decide) mw_10_8 rfl dX9_add_34 ?_
  refine g_iconst (pc := 37) X 1 (by decide) dX9_add_37 ?_
  refine g_iadd (pc := 38) X dX9_add_38 ?_
  refine g_lit (y := 1) (by decide) ?_
  refine g_put (pc := 39) X inlX9 tyX9_ok nmX9 1 rfl rfl 1 (by decide) mw_10_8 rfl rfl rfl (Nat.le_of_ble_eq_true rfl) (ws' := [(t_bytes, .inl (Z.2.1 0, 400, .inl f1)), (t0, .inr (9, [.ref t_bytes, .int 1, .int 0, .ref t_kinds, .ref t_places, .ref t_values]))]) rfl dX9_add_39 ?_
  refine g_iinc (pc := 42) X 0 rfl (v := 16) (by decide) (by decide) (lv' := [(2, .int 16), (0, .ref t0), (1, .int x1)]) rfl dX9_add_42 ?_
  refine g_goto (pc := 45) X 12 (by decide) dX9_add_45 ?_
  refine g_iload_n (pc := 12) X 0 rfl dX9_add_12 ?_
  refine g_if_lt (pc := 13) X 48 (by decide) dX9_add_13 (fun h => absurd h (by decide)) (fun b13 => ?_)
  refine g_aload_n (pc := 16) X 1 rfl dX9_add_16 ?_
  refine g_get (pc := 17) X inlX9 1 rfl rfl 0 (by decide) mw_3_12 rfl dX9_add_17 ?_
  refine g_aload_n (pc := 20) X 1 rfl dX9_add_20 ?_
  refine g_get (pc := 21) X inlX9 1 rfl rfl 1 (by decide) mw_10_8 rfl dX9_add_21 ?_
  refine g_iload_n (pc := 24) X 2 rfl dX9_add_24 ?_
  refine g_iload_n (pc := 25) X 0 rfl dX9_add_25 ?_
  refine g_iushr (pc := 26) X dX9_add_26 ?_
  refine g_sipush (pc := 27) X 255 (by decide) dX9_add_27 ?_
  refine g_iand (pc := 30) X dX9_add_30 ?_
  refine g_iastF (pc := 31) X 0 rfl (vp_in_iff.mpr (by decide)) (ws' := fun f2 => [(t_bytes, .inl (Z.2.1 0, 400, .inl f2)), (t0, .inr (9, [.ref t_bytes, .int 1, .int 0, .ref t_kinds, .ref t_places, .ref t_values]))]) (fun _ => rfl) dX9_add_31 (fun f2 => ?_)
  refine g_aload_n (pc := 32) X 1 rfl dX9_add_32 ?_
  refine g_dup (pc := 33) X rfl dX9_add_33 ?_
  refine g_get (pc := 34) X inlX9 1 rfl rfl 1 (by decide) mw_10_8 rfl dX9_add_34 ?_
  refine g_iconst (pc := 37) X 1 (by decide) dX9_add_37 ?_
  refine g_iadd (pc := 38) X dX9_add_38 ?_
  refine g_lit (y := 2) (by decide) ?_
  refine g_put (pc := 39) X inlX9 tyX9_ok nmX9 1 rfl rfl 1 (by decide) mw_10_8 rfl rfl rfl (Nat.le_of_ble_eq_true rfl) (ws' := [(t_bytes, .inl (Z.2.1 0, 400, .inl f2)), (t0, .inr (9, [.ref t_bytes, .int 2, .int 0, .ref t_kinds, .ref t_places, .ref t_values]))]) rfl dX9_add_39 ?_
  refine g_iinc (pc := 42) X 0 rfl (v := 8) (by decide) (by decide) (lv' := [(2, .int 8), (0, .ref t0), (1, .int x1)]) rfl dX9_add_42 ?_
  refine g_goto (pc := 45) X 12 (by decide) dX9_add_45 ?_
  refine g_iload_n (pc := 12) X 0 rfl dX9_add_12 ?_
  refine g_if_lt (pc := 13) X 48 (by decide) dX9_add_13 (fun h => absurd h (by decide)) (fun b13 => ?_)
  refine g_aload_n (pc := 16) X 1 rfl dX9_add_16 ?_
  refine g_get (pc := 17) X inlX9 1 rfl rfl 0 (by decide) mw_3_12 rfl dX9_add_17 ?_
  refine g_aload_n (pc := 20) X 1 rfl dX9_add_20 ?_
  refine g_get (pc := 21) X inlX9 1 rfl rfl 1 (by decide) mw_10_8 rfl dX9_add_21 ?_
  refine g_iload_n (pc := 24) X 2 rfl dX9_add_24 ?_
  refine g_iload_n (pc := 25) X 0 rfl dX9_add_25 ?_
  refine g_iushr (pc := 26) X dX9_add_26 ?_
  refine g_sipush (pc := 27) X 255 (by decide) dX9_add_27 ?_
  refine g_iand (pc := 30) X dX9_add_30 ?_
  refine g_iastF (pc := 31) X 0 rfl (vp_in_iff.mpr (by decide)) (ws' := fun f3 => [(t_bytes, .inl (Z.2.1 0, 400, .inl f3)), (t0, .inr (9, [.ref t_bytes, .int 2, .int 0, .ref t_kinds, .ref t_places, .ref t_values]))]) (fun _ => rfl) dX9_add_31 (fun f3 => ?_)
  refine g_aload_n (pc := 32) X 1 rfl dX9_add_32 ?_
  refine g_dup (pc := 33) X rfl dX9_add_33 ?_
  refine g_get (pc := 34) X inlX9 1 rfl rfl 1 (by decide) mw_10_8 rfl dX9_add_34 ?_
  refine g_iconst (pc := 37) X 1 (by decide) dX9_add_37 ?_
  refine g_iadd (pc := 38) X dX9_add_38 ?_
  refine g_lit (y := 3) (by decide) ?_
  refine g_put (pc := 39) X inlX9 tyX9_ok nmX9 1 rfl rfl 1 (by decide) mw_10_8 rfl rfl rfl (Nat.le_of_ble_eq_true rfl) (ws' := [(t_bytes, .inl (Z.2.1 0, 400, .inl f3)), (t0, .inr (9, [.ref t_bytes, .int 3, .int 0, .ref t_kinds, .ref t_places, .ref t_values]))]) rfl dX9_add_39 ?_
  refine g_iinc (pc := 42) X 0 rfl (v := 0) (by decide) (by decide) (lv' := [(2, .int 0), (0, .ref t0), (1, .int x1)]) rfl dX9_add_42 ?_
  refine g_goto (pc := 45) X 12 (by decide) dX9_add_45 ?_
  refine g_iload_n (pc := 12) X 0 rfl dX9_add_12 ?_
  refine g_if_lt (pc := 13) X 48 (by decide) dX9_add_13 (fun h => absurd h (by decide)) (fun b13 => ?_)
  refine g_aload_n (pc := 16) X 1 rfl dX9_add_16 ?_
  refine g_get (pc := 17) X inlX9 1 rfl rfl 0 (by decide) mw_3_12 rfl dX9_add_17 ?_
  refine g_aload_n (pc := 20) X 1 rfl dX9_add_20 ?_
  refine g_get (pc := 21) X inlX9 1 rfl rfl 1 (by decide) mw_10_8 rfl dX9_add_21 ?_
  refine g_iload_n (pc := 24) X 2 rfl dX9_add_24 ?_
  refine g_iload_n (pc := 25) X 0 rfl dX9_add_25 ?_
  refine g_iushr (pc := 26) X dX9_add_26 ?_
  refine g_sipush (pc := 27) X 255 (by decide) dX9_add_27 ?_
  refine g_iand (pc := 30) X dX9_add_30 ?_
  refine g_iastF (pc := 31) X 0 rfl (vp_in_iff.mpr (by decide)) (ws' := fun f4 => [(t_bytes, .inl (Z.2.1 0, 400, .inl f4)), (t0, .inr (9, [.ref t_bytes, .int 3, .int 0, .ref t_kinds, .ref t_places, .ref t_values]))]) (fun _ => rfl) dX9_add_31 (fun f4 => ?_)
  refine g_aload_n (pc := 32) X 1 rfl dX9_add_32 ?_
  refine g_dup (pc := 33) X rfl dX9_add_33 ?_
  refine g_get (pc := 34) X inlX9 1 rfl rfl 1 (by decide) mw_10_8 rfl dX9_add_34 ?_
  refine g_iconst (pc := 37) X 1 (by decide) dX9_add_37 ?_
  refine g_iadd (pc := 38) X dX9_add_38 ?_
  refine g_lit (y := 4) (by decide) ?_
  refine g_put (pc := 39) X inlX9 tyX9_ok nmX9 1 rfl rfl 1 (by decide) mw_10_8 rfl rfl rfl (Nat.le_of_ble_eq_true rfl) (ws' := [(t_bytes, .inl (Z.2.1 0, 400, .inl f4)), (t0, .inr (9, [.ref t_bytes, .int 4, .int 0, .ref t_kinds, .ref t_places, .ref t_values]))]) rfl dX9_add_39 ?_
  refine g_iinc (pc := 42) X 0 rfl (v := (-8)) (by decide) (by decide) (lv' := [(2, .int (-8)), (0, .ref t0), (1, .int x1)]) rfl dX9_add_42 ?_
  refine g_goto (pc := 45) X 12 (by decide) dX9_add_45 ?_
  refine g_iload_n (pc := 12) X 0 rfl dX9_add_12 ?_
  refine g_if_lt (pc := 13) X 48 (by decide) dX9_add_13 (fun b13 => ?_) (fun h => absurd (by decide) h)
  exact g_vret (pc := 48) X hA (⟨f4, rfl, rfl⟩) (by decide) (by decide) dX9_add_48

set_option maxHeartbeats 4000000 in
set_option maxRecDepth 100000 in
theorem c_add_4 (l : Launch) (Z : gZ) (t0 : Nat) (t_bytes : Nat) (t_kinds : Nat) (t_places : Nat) (t_values : Nat) (f : Nat → Int32) (x1 : Int32) : Con l Z yX9_add cX9_add 3 none 1 21 0 0 [.ref t0, .int x1] [(t0, .inr (9, [.ref t_bytes, .int 4, .int 0, .ref t_kinds, .ref t_places, .ref t_values])), (t_bytes, .inl (Z.2.1 0, 400, .inl f))] (fun r w' => ∃ (f4 : Nat → Int32), r = none ∧ w' = [(t_bytes, .inl (Z.2.1 0, 400, .inl f4)), (t0, .inr (9, [.ref t_bytes, .int 8, .int 0, .ref t_kinds, .ref t_places, .ref t_values]))]) := by
  refine enter (by decide) (Nat.le_of_ble_eq_true rfl) ?_
  intro p e s m args below meth c A X hnm hA
  have X : Cx p s m args meth c cX9_add 3 none RX9 Z A := X
  refine g_as (pc' := 0) (lv' := [(0, .ref t0), (1, .int x1)]) (st' := []) (ws' := [(t0, .inr (9, [.ref t_bytes, .int 4, .int 0, .ref t_kinds, .ref t_places, .ref t_values])), (t_bytes, .inl (Z.2.1 0, 400, .inl f))]) rfl rfl rfl rfl ?_
  refine g_aload_n (pc := 0) X 0 rfl dX9_add_0 ?_
  refine g_iconst (pc := 1) X 4 (by decide) dX9_add_1 ?_
  refine g_callV (pc := 2) X (c_space_4_4 l Z t0 t_bytes t_kinds t_places t_values) iM_X9_hasSpaceFor mw_10_13 mw_10_5 mw_10_6 0 rfl rfl [0] [1] rfl (wr := [(t_bytes, .inl (Z.2.1 0, 400, .inl f))]) rfl (by decide) rfl rfl (Nat.le_of_ble_eq_true rfl) (by decide) dX9_add_2 (fun r w' hpo => ?_)
  obtain ⟨rfl, rfl⟩ := hpo
  refine g_as (pc' := 5) (lv' := [(0, .ref t0), (1, .int x1)]) (st' := [.int 1]) (ws' := [(t_bytes, .inl (Z.2.1 0, 400, .inl f)), (t0, .inr (9, [.ref t_bytes, .int 4, .int 0, .ref t_kinds, .ref t_places, .ref t_values]))]) rfl rfl rfl rfl ?_
  refine g_if_ne (pc := 5) X 9 (by decide) dX9_add_5 (fun b5 => ?_) (fun h => absurd h (by decide))
  refine g_bipush (pc := 9) X 24 (by decide) dX9_add_9 ?_
  refine g_istore_n (pc := 11) X (i := 2) rfl (by decide) (lv' := [(2, .int 24), (0, .ref t0), (1, .int x1)]) rfl dX9_add_11 ?_
  refine g_iload_n (pc := 12) X 0 rfl dX9_add_12 ?_
  refine g_if_lt (pc := 13) X 48 (by decide) dX9_add_13 (fun h => absurd h (by decide)) (fun b13 => ?_)
  refine g_aload_n (pc := 16) X 1 rfl dX9_add_16 ?_
  refine g_get (pc := 17) X inlX9 1 rfl rfl 0 (by decide) mw_3_12 rfl dX9_add_17 ?_
  refine g_aload_n (pc := 20) X 1 rfl dX9_add_20 ?_
  refine g_get (pc := 21) X inlX9 1 rfl rfl 1 (by decide) mw_10_8 rfl dX9_add_21 ?_
  refine g_iload_n (pc := 24) X 2 rfl dX9_add_24 ?_
  refine g_iload_n (pc := 25) X 0 rfl dX9_add_25 ?_
  refine g_iushr (pc := 26) X dX9_add_26 ?_
  refine g_sipush (pc := 27) X 255 (by decide) dX9_add_27 ?_
  refine g_iand (pc := 30) X dX9_add_30 ?_
  refine g_iastF (pc := 31) X 0 rfl (vp_in_iff.mpr (by decide)) (ws' := fun f1 => [(t_bytes, .inl (Z.2.1 0, 400, .inl f1)), (t0, .inr (9, [.ref t_bytes, .int 4, .int 0, .ref t_kinds, .ref t_places, .ref t_values]))]) (fun _ => rfl) dX9_add_31 (fun f1 => ?_)
  refine g_aload_n (pc := 32) X 1 rfl dX9_add_32 ?_
  refine g_dup (pc := 33) X rfl dX9_add_33 ?_
  refine g_get (pc := 34) X inlX9 1 rfl rfl 1 (by decide) mw_10_8 rfl dX9_add_34 ?_
  refine g_iconst (pc := 37) X 1 (by decide) dX9_add_37 ?_
  refine g_iadd (pc := 38) X dX9_add_38 ?_
  refine g_lit (y := 5) (by decide) ?_
  refine g_put (pc := 39) X inlX9 tyX9_ok nmX9 1 rfl rfl 1 (by decide) mw_10_8 rfl rfl rfl (Nat.le_of_ble_eq_true rfl) (ws' := [(t_bytes, .inl (Z.2.1 0, 400, .inl f1)), (t0, .inr (9, [.ref t_bytes, .int 5, .int 0, .ref t_kinds, .ref t_places, .ref t_values]))]) rfl dX9_add_39 ?_
  refine g_iinc (pc := 42) X 0 rfl (v := 16) (by decide) (by decide) (lv' := [(2, .int 16), (0, .ref t0), (1, .int x1)]) rfl dX9_add_42 ?_
  refine g_goto (pc := 45) X 12 (by decide) dX9_add_45 ?_
  refine g_iload_n (pc := 12) X 0 rfl dX9_add_12 ?_
  refine g_if_lt (pc := 13) X 48 (by decide) dX9_add_13 (fun h => absurd h (by decide)) (fun b13 => ?_)
  refine g_aload_n (pc := 16) X 1 rfl dX9_add_16 ?_
  refine g_get (pc := 17) X inlX9 1 rfl rfl 0 (by decide) mw_3_12 rfl dX9_add_17 ?_
  refine g_aload_n (pc := 20) X 1 rfl dX9_add_20 ?_
  refine g_get (pc := 21) X inlX9 1 rfl rfl 1 (by decide) mw_10_8 rfl dX9_add_21 ?_
  refine g_iload_n (pc := 24) X 2 rfl dX9_add_24 ?_
  refine g_iload_n (pc := 25) X 0 rfl dX9_add_25 ?_
  refine g_iushr (pc := 26) X dX9_add_26 ?_
  refine g_sipush (pc := 27) X 255 (by decide) dX9_add_27 ?_
  refine g_iand (pc := 30) X dX9_add_30 ?_
  refine g_iastF (pc := 31) X 0 rfl (vp_in_iff.mpr (by decide)) (ws' := fun f2 => [(t_bytes, .inl (Z.2.1 0, 400, .inl f2)), (t0, .inr (9, [.ref t_bytes, .int 5, .int 0, .ref t_kinds, .ref t_places, .ref t_values]))]) (fun _ => rfl) dX9_add_31 (fun f2 => ?_)
  refine g_aload_n (pc := 32) X 1 rfl dX9_add_32 ?_
  refine g_dup (pc := 33) X rfl dX9_add_33 ?_
  refine g_get (pc := 34) X inlX9 1 rfl rfl 1 (by decide) mw_10_8 rfl dX9_add_34 ?_
  refine g_iconst (pc := 37) X 1 (by decide) dX9_add_37 ?_
  refine g_iadd (pc := 38) X dX9_add_38 ?_
  refine g_lit (y := 6) (by decide) ?_
  refine g_put (pc := 39) X inlX9 tyX9_ok nmX9 1 rfl rfl 1 (by decide) mw_10_8 rfl rfl rfl (Nat.le_of_ble_eq_true rfl) (ws' := [(t_bytes, .inl (Z.2.1 0, 400, .inl f2)), (t0, .inr (9, [.ref t_bytes, .int 6, .int 0, .ref t_kinds, .ref t_places, .ref t_values]))]) rfl dX9_add_39 ?_
  refine g_iinc (pc := 42) X 0 rfl (v := 8) (by decide) (by decide) (lv' := [(2, .int 8), (0, .ref t0), (1, .int x1)]) rfl dX9_add_42 ?_
  refine g_goto (pc := 45) X 12 (by decide) dX9_add_45 ?_
  refine g_iload_n (pc := 12) X 0 rfl dX9_add_12 ?_
  refine g_if_lt (pc := 13) X 48 (by decide) dX9_add_13 (fun h => absurd h (by decide)) (fun b13 => ?_)
  refine g_aload_n (pc := 16) X 1 rfl dX9_add_16 ?_
  refine g_get (pc := 17) X inlX9 1 rfl rfl 0 (by decide) mw_3_12 rfl dX9_add_17 ?_
  refine g_aload_n (pc := 20) X 1 rfl dX9_add_20 ?_
  refine g_get (pc := 21) X inlX9 1 rfl rfl 1 (by decide) mw_10_8 rfl dX9_add_21 ?_
  refine g_iload_n (pc := 24) X 2 rfl dX9_add_24 ?_
  refine g_iload_n (pc := 25) X 0 rfl dX9_add_25 ?_
  refine g_iushr (pc := 26) X dX9_add_26 ?_
  refine g_sipush (pc := 27) X 255 (by decide) dX9_add_27 ?_
  refine g_iand (pc := 30) X dX9_add_30 ?_
  refine g_iastF (pc := 31) X 0 rfl (vp_in_iff.mpr (by decide)) (ws' := fun f3 => [(t_bytes, .inl (Z.2.1 0, 400, .inl f3)), (t0, .inr (9, [.ref t_bytes, .int 6, .int 0, .ref t_kinds, .ref t_places, .ref t_values]))]) (fun _ => rfl) dX9_add_31 (fun f3 => ?_)
  refine g_aload_n (pc := 32) X 1 rfl dX9_add_32 ?_
  refine g_dup (pc := 33) X rfl dX9_add_33 ?_
  refine g_get (pc := 34) X inlX9 1 rfl rfl 1 (by decide) mw_10_8 rfl dX9_add_34 ?_
  refine g_iconst (pc := 37) X 1 (by decide) dX9_add_37 ?_
  refine g_iadd (pc := 38) X dX9_add_38 ?_
  refine g_lit (y := 7) (by decide) ?_
  refine g_put (pc := 39) X inlX9 tyX9_ok nmX9 1 rfl rfl 1 (by decide) mw_10_8 rfl rfl rfl (Nat.le_of_ble_eq_true rfl) (ws' := [(t_bytes, .inl (Z.2.1 0, 400, .inl f3)), (t0, .inr (9, [.ref t_bytes, .int 7, .int 0, .ref t_kinds, .ref t_places, .ref t_values]))]) rfl dX9_add_39 ?_
  refine g_iinc (pc := 42) X 0 rfl (v := 0) (by decide) (by decide) (lv' := [(2, .int 0), (0, .ref t0), (1, .int x1)]) rfl dX9_add_42 ?_
  refine g_goto (pc := 45) X 12 (by decide) dX9_add_45 ?_
  refine g_iload_n (pc := 12) X 0 rfl dX9_add_12 ?_
  refine g_if_lt (pc := 13) X 48 (by decide) dX9_add_13 (fun h => absurd h (by decide)) (fun b13 => ?_)
  refine g_aload_n (pc := 16) X 1 rfl dX9_add_16 ?_
  refine g_get (pc := 17) X inlX9 1 rfl rfl 0 (by decide) mw_3_12 rfl dX9_add_17 ?_
  refine g_aload_n (pc := 20) X 1 rfl dX9_add_20 ?_
  refine g_get (pc := 21) X inlX9 1 rfl rfl 1 (by decide) mw_10_8 rfl dX9_add_21 ?_
  refine g_iload_n (pc := 24) X 2 rfl dX9_add_24 ?_
  refine g_iload_n (pc := 25) X 0 rfl dX9_add_25 ?_
  refine g_iushr (pc := 26) X dX9_add_26 ?_
  refine g_sipush (pc := 27) X 255 (by decide) dX9_add_27 ?_
  refine g_iand (pc := 30) X dX9_add_30 ?_
  refine g_iastF (pc := 31) X 0 rfl (vp_in_iff.mpr (by decide)) (ws' := fun f4 => [(t_bytes, .inl (Z.2.1 0, 400, .inl f4)), (t0, .inr (9, [.ref t_bytes, .int 7, .int 0, .ref t_kinds, .ref t_places, .ref t_values]))]) (fun _ => rfl) dX9_add_31 (fun f4 => ?_)
  refine g_aload_n (pc := 32) X 1 rfl dX9_add_32 ?_
  refine g_dup (pc := 33) X rfl dX9_add_33 ?_
  refine g_get (pc := 34) X inlX9 1 rfl rfl 1 (by decide) mw_10_8 rfl dX9_add_34 ?_
  refine g_iconst (pc := 37) X 1 (by decide) dX9_add_37 ?_
  refine g_iadd (pc := 38) X dX9_add_38 ?_
  refine g_lit (y := 8) (by decide) ?_
  refine g_put (pc := 39) X inlX9 tyX9_ok nmX9 1 rfl rfl 1 (by decide) mw_10_8 rfl rfl rfl (Nat.le_of_ble_eq_true rfl) (ws' := [(t_bytes, .inl (Z.2.1 0, 400, .inl f4)), (t0, .inr (9, [.ref t_bytes, .int 8, .int 0, .ref t_kinds, .ref t_places, .ref t_values]))]) rfl dX9_add_39 ?_
  refine g_iinc (pc := 42) X 0 rfl (v := (-8)) (by decide) (by decide) (lv' := [(2, .int (-8)), (0, .ref t0), (1, .int x1)]) rfl dX9_add_42 ?_
  refine g_goto (pc := 45) X 12 (by decide) dX9_add_45 ?_
  refine g_iload_n (pc := 12) X 0 rfl dX9_add_12 ?_
  refine g_if_lt (pc := 13) X 48 (by decide) dX9_add_13 (fun b13 => ?_) (fun h => absurd (by decide) h)
  exact g_vret (pc := 48) X hA (⟨f4, rfl, rfl⟩) (by decide) (by decide) dX9_add_48

set_option maxHeartbeats 4000000 in
set_option maxRecDepth 100000 in
theorem c_add_8 (l : Launch) (Z : gZ) (t0 : Nat) (t_bytes : Nat) (t_kinds : Nat) (t_places : Nat) (t_values : Nat) (f : Nat → Int32) (x1 : Int32) : Con l Z yX9_add cX9_add 3 none 1 21 0 0 [.ref t0, .int x1] [(t0, .inr (9, [.ref t_bytes, .int 8, .int 0, .ref t_kinds, .ref t_places, .ref t_values])), (t_bytes, .inl (Z.2.1 0, 400, .inl f))] (fun r w' => ∃ (f4 : Nat → Int32), r = none ∧ w' = [(t_bytes, .inl (Z.2.1 0, 400, .inl f4)), (t0, .inr (9, [.ref t_bytes, .int 12, .int 0, .ref t_kinds, .ref t_places, .ref t_values]))]) := by
  refine enter (by decide) (Nat.le_of_ble_eq_true rfl) ?_
  intro p e s m args below meth c A X hnm hA
  have X : Cx p s m args meth c cX9_add 3 none RX9 Z A := X
  refine g_as (pc' := 0) (lv' := [(0, .ref t0), (1, .int x1)]) (st' := []) (ws' := [(t0, .inr (9, [.ref t_bytes, .int 8, .int 0, .ref t_kinds, .ref t_places, .ref t_values])), (t_bytes, .inl (Z.2.1 0, 400, .inl f))]) rfl rfl rfl rfl ?_
  refine g_aload_n (pc := 0) X 0 rfl dX9_add_0 ?_
  refine g_iconst (pc := 1) X 4 (by decide) dX9_add_1 ?_
  refine g_callV (pc := 2) X (c_space_4_8 l Z t0 t_bytes t_kinds t_places t_values) iM_X9_hasSpaceFor mw_10_13 mw_10_5 mw_10_6 0 rfl rfl [0] [1] rfl (wr := [(t_bytes, .inl (Z.2.1 0, 400, .inl f))]) rfl (by decide) rfl rfl (Nat.le_of_ble_eq_true rfl) (by decide) dX9_add_2 (fun r w' hpo => ?_)
  obtain ⟨rfl, rfl⟩ := hpo
  refine g_as (pc' := 5) (lv' := [(0, .ref t0), (1, .int x1)]) (st' := [.int 1]) (ws' := [(t_bytes, .inl (Z.2.1 0, 400, .inl f)), (t0, .inr (9, [.ref t_bytes, .int 8, .int 0, .ref t_kinds, .ref t_places, .ref t_values]))]) rfl rfl rfl rfl ?_
  refine g_if_ne (pc := 5) X 9 (by decide) dX9_add_5 (fun b5 => ?_) (fun h => absurd h (by decide))
  refine g_bipush (pc := 9) X 24 (by decide) dX9_add_9 ?_
  refine g_istore_n (pc := 11) X (i := 2) rfl (by decide) (lv' := [(2, .int 24), (0, .ref t0), (1, .int x1)]) rfl dX9_add_11 ?_
  refine g_iload_n (pc := 12) X 0 rfl dX9_add_12 ?_
  refine g_if_lt (pc := 13) X 48 (by decide) dX9_add_13 (fun h => absurd h (by decide)) (fun b13 => ?_)
  refine g_aload_n (pc := 16) X 1 rfl dX9_add_16 ?_
  refine g_get (pc := 17) X inlX9 1 rfl rfl 0 (by decide) mw_3_12 rfl dX9_add_17 ?_
  refine g_aload_n (pc := 20) X 1 rfl dX9_add_20 ?_
  refine g_get (pc := 21) X inlX9 1 rfl rfl 1 (by decide) mw_10_8 rfl dX9_add_21 ?_
  refine g_iload_n (pc := 24) X 2 rfl dX9_add_24 ?_
  refine g_iload_n (pc := 25) X 0 rfl dX9_add_25 ?_
  refine g_iushr (pc := 26) X dX9_add_26 ?_
  refine g_sipush (pc := 27) X 255 (by decide) dX9_add_27 ?_
  refine g_iand (pc := 30) X dX9_add_30 ?_
  refine g_iastF (pc := 31) X 0 rfl (vp_in_iff.mpr (by decide)) (ws' := fun f1 => [(t_bytes, .inl (Z.2.1 0, 400, .inl f1)), (t0, .inr (9, [.ref t_bytes, .int 8, .int 0, .ref t_kinds, .ref t_places, .ref t_values]))]) (fun _ => rfl) dX9_add_31 (fun f1 => ?_)
  refine g_aload_n (pc := 32) X 1 rfl dX9_add_32 ?_
  refine g_dup (pc := 33) X rfl dX9_add_33 ?_
  refine g_get (pc := 34) X inlX9 1 rfl rfl 1 (by decide) mw_10_8 rfl dX9_add_34 ?_
  refine g_iconst (pc := 37) X 1 (by decide) dX9_add_37 ?_
  refine g_iadd (pc := 38) X dX9_add_38 ?_
  refine g_lit (y := 9) (by decide) ?_
  refine g_put (pc := 39) X inlX9 tyX9_ok nmX9 1 rfl rfl 1 (by decide) mw_10_8 rfl rfl rfl (Nat.le_of_ble_eq_true rfl) (ws' := [(t_bytes, .inl (Z.2.1 0, 400, .inl f1)), (t0, .inr (9, [.ref t_bytes, .int 9, .int 0, .ref t_kinds, .ref t_places, .ref t_values]))]) rfl dX9_add_39 ?_
  refine g_iinc (pc := 42) X 0 rfl (v := 16) (by decide) (by decide) (lv' := [(2, .int 16), (0, .ref t0), (1, .int x1)]) rfl dX9_add_42 ?_
  refine g_goto (pc := 45) X 12 (by decide) dX9_add_45 ?_
  refine g_iload_n (pc := 12) X 0 rfl dX9_add_12 ?_
  refine g_if_lt (pc := 13) X 48 (by decide) dX9_add_13 (fun h => absurd h (by decide)) (fun b13 => ?_)
  refine g_aload_n (pc := 16) X 1 rfl dX9_add_16 ?_
  refine g_get (pc := 17) X inlX9 1 rfl rfl 0 (by decide) mw_3_12 rfl dX9_add_17 ?_
  refine g_aload_n (pc := 20) X 1 rfl dX9_add_20 ?_
  refine g_get (pc := 21) X inlX9 1 rfl rfl 1 (by decide) mw_10_8 rfl dX9_add_21 ?_
  refine g_iload_n (pc := 24) X 2 rfl dX9_add_24 ?_
  refine g_iload_n (pc := 25) X 0 rfl dX9_add_25 ?_
  refine g_iushr (pc := 26) X dX9_add_26 ?_
  refine g_sipush (pc := 27) X 255 (by decide) dX9_add_27 ?_
  refine g_iand (pc := 30) X dX9_add_30 ?_
  refine g_iastF (pc := 31) X 0 rfl (vp_in_iff.mpr (by decide)) (ws' := fun f2 => [(t_bytes, .inl (Z.2.1 0, 400, .inl f2)), (t0, .inr (9, [.ref t_bytes, .int 9, .int 0, .ref t_kinds, .ref t_places, .ref t_values]))]) (fun _ => rfl) dX9_add_31 (fun f2 => ?_)
  refine g_aload_n (pc := 32) X 1 rfl dX9_add_32 ?_
  refine g_dup (pc := 33) X rfl dX9_add_33 ?_
  refine g_get (pc := 34) X inlX9 1 rfl rfl 1 (by decide) mw_10_8 rfl dX9_add_34 ?_
  refine g_iconst (pc := 37) X 1 (by decide) dX9_add_37 ?_
  refine g_iadd (pc := 38) X dX9_add_38 ?_
  refine g_lit (y := 10) (by decide) ?_
  refine g_put (pc := 39) X inlX9 tyX9_ok nmX9 1 rfl rfl 1 (by decide) mw_10_8 rfl rfl rfl (Nat.le_of_ble_eq_true rfl) (ws' := [(t_bytes, .inl (Z.2.1 0, 400, .inl f2)), (t0, .inr (9, [.ref t_bytes, .int 10, .int 0, .ref t_kinds, .ref t_places, .ref t_values]))]) rfl dX9_add_39 ?_
  refine g_iinc (pc := 42) X 0 rfl (v := 8) (by decide) (by decide) (lv' := [(2, .int 8), (0, .ref t0), (1, .int x1)]) rfl dX9_add_42 ?_
  refine g_goto (pc := 45) X 12 (by decide) dX9_add_45 ?_
  refine g_iload_n (pc := 12) X 0 rfl dX9_add_12 ?_
  refine g_if_lt (pc := 13) X 48 (by decide) dX9_add_13 (fun h => absurd h (by decide)) (fun b13 => ?_)
  refine g_aload_n (pc := 16) X 1 rfl dX9_add_16 ?_
  refine g_get (pc := 17) X inlX9 1 rfl rfl 0 (by decide) mw_3_12 rfl dX9_add_17 ?_
  refine g_aload_n (pc := 20) X 1 rfl dX9_add_20 ?_
  refine g_get (pc := 21) X inlX9 1 rfl rfl 1 (by decide) mw_10_8 rfl dX9_add_21 ?_
  refine g_iload_n (pc := 24) X 2 rfl dX9_add_24 ?_
  refine g_iload_n (pc := 25) X 0 rfl dX9_add_25 ?_
  refine g_iushr (pc := 26) X dX9_add_26 ?_
  refine g_sipush (pc := 27) X 255 (by decide) dX9_add_27 ?_
  refine g_iand (pc := 30) X dX9_add_30 ?_
  refine g_iastF (pc := 31) X 0 rfl (vp_in_iff.mpr (by decide)) (ws' := fun f3 => [(t_bytes, .inl (Z.2.1 0, 400, .inl f3)), (t0, .inr (9, [.ref t_bytes, .int 10, .int 0, .ref t_kinds, .ref t_places, .ref t_values]))]) (fun _ => rfl) dX9_add_31 (fun f3 => ?_)
  refine g_aload_n (pc := 32) X 1 rfl dX9_add_32 ?_
  refine g_dup (pc := 33) X rfl dX9_add_33 ?_
  refine g_get (pc := 34) X inlX9 1 rfl rfl 1 (by decide) mw_10_8 rfl dX9_add_34 ?_
  refine g_iconst (pc := 37) X 1 (by decide) dX9_add_37 ?_
  refine g_iadd (pc := 38) X dX9_add_38 ?_
  refine g_lit (y := 11) (by decide) ?_
  refine g_put (pc := 39) X inlX9 tyX9_ok nmX9 1 rfl rfl 1 (by decide) mw_10_8 rfl rfl rfl (Nat.le_of_ble_eq_true rfl) (ws' := [(t_bytes, .inl (Z.2.1 0, 400, .inl f3)), (t0, .inr (9, [.ref t_bytes, .int 11, .int 0, .ref t_kinds, .ref t_places, .ref t_values]))]) rfl dX9_add_39 ?_
  refine g_iinc (pc := 42) X 0 rfl (v := 0) (by decide) (by decide) (lv' := [(2, .int 0), (0, .ref t0), (1, .int x1)]) rfl dX9_add_42 ?_
  refine g_goto (pc := 45) X 12 (by decide) dX9_add_45 ?_
  refine g_iload_n (pc := 12) X 0 rfl dX9_add_12 ?_
  refine g_if_lt (pc := 13) X 48 (by decide) dX9_add_13 (fun h => absurd h (by decide)) (fun b13 => ?_)
  refine g_aload_n (pc := 16) X 1 rfl dX9_add_16 ?_
  refine g_get (pc := 17) X inlX9 1 rfl rfl 0 (by decide) mw_3_12 rfl dX9_add_17 ?_
  refine g_aload_n (pc := 20) X 1 rfl dX9_add_20 ?_
  refine g_get (pc := 21) X inlX9 1 rfl rfl 1 (by decide) mw_10_8 rfl dX9_add_21 ?_
  refine g_iload_n (pc := 24) X 2 rfl dX9_add_24 ?_
  refine g_iload_n (pc := 25) X 0 rfl dX9_add_25 ?_
  refine g_iushr (pc := 26) X dX9_add_26 ?_
  refine g_sipush (pc := 27) X 255 (by decide) dX9_add_27 ?_
  refine g_iand (pc := 30) X dX9_add_30 ?_
  refine g_iastF (pc := 31) X 0 rfl (vp_in_iff.mpr (by decide)) (ws' := fun f4 => [(t_bytes, .inl (Z.2.1 0, 400, .inl f4)), (t0, .inr (9, [.ref t_bytes, .int 11, .int 0, .ref t_kinds, .ref t_places, .ref t_values]))]) (fun _ => rfl) dX9_add_31 (fun f4 => ?_)
  refine g_aload_n (pc := 32) X 1 rfl dX9_add_32 ?_
  refine g_dup (pc := 33) X rfl dX9_add_33 ?_
  refine g_get (pc := 34) X inlX9 1 rfl rfl 1 (by decide) mw_10_8 rfl dX9_add_34 ?_
  refine g_iconst (pc := 37) X 1 (by decide) dX9_add_37 ?_
  refine g_iadd (pc := 38) X dX9_add_38 ?_
  refine g_lit (y := 12) (by decide) ?_
  refine g_put (pc := 39) X inlX9 tyX9_ok nmX9 1 rfl rfl 1 (by decide) mw_10_8 rfl rfl rfl (Nat.le_of_ble_eq_true rfl) (ws' := [(t_bytes, .inl (Z.2.1 0, 400, .inl f4)), (t0, .inr (9, [.ref t_bytes, .int 12, .int 0, .ref t_kinds, .ref t_places, .ref t_values]))]) rfl dX9_add_39 ?_
  refine g_iinc (pc := 42) X 0 rfl (v := (-8)) (by decide) (by decide) (lv' := [(2, .int (-8)), (0, .ref t0), (1, .int x1)]) rfl dX9_add_42 ?_
  refine g_goto (pc := 45) X 12 (by decide) dX9_add_45 ?_
  refine g_iload_n (pc := 12) X 0 rfl dX9_add_12 ?_
  refine g_if_lt (pc := 13) X 48 (by decide) dX9_add_13 (fun b13 => ?_) (fun h => absurd (by decide) h)
  exact g_vret (pc := 48) X hA (⟨f4, rfl, rfl⟩) (by decide) (by decide) dX9_add_48

set_option maxHeartbeats 4000000 in
set_option maxRecDepth 100000 in
theorem c_add_12 (l : Launch) (Z : gZ) (t0 : Nat) (t_bytes : Nat) (t_kinds : Nat) (t_places : Nat) (t_values : Nat) (f : Nat → Int32) (x1 : Int32) : Con l Z yX9_add cX9_add 3 none 1 21 0 0 [.ref t0, .int x1] [(t0, .inr (9, [.ref t_bytes, .int 12, .int 0, .ref t_kinds, .ref t_places, .ref t_values])), (t_bytes, .inl (Z.2.1 0, 400, .inl f))] (fun r w' => ∃ (f4 : Nat → Int32), r = none ∧ w' = [(t_bytes, .inl (Z.2.1 0, 400, .inl f4)), (t0, .inr (9, [.ref t_bytes, .int 16, .int 0, .ref t_kinds, .ref t_places, .ref t_values]))]) := by
  refine enter (by decide) (Nat.le_of_ble_eq_true rfl) ?_
  intro p e s m args below meth c A X hnm hA
  have X : Cx p s m args meth c cX9_add 3 none RX9 Z A := X
  refine g_as (pc' := 0) (lv' := [(0, .ref t0), (1, .int x1)]) (st' := []) (ws' := [(t0, .inr (9, [.ref t_bytes, .int 12, .int 0, .ref t_kinds, .ref t_places, .ref t_values])), (t_bytes, .inl (Z.2.1 0, 400, .inl f))]) rfl rfl rfl rfl ?_
  refine g_aload_n (pc := 0) X 0 rfl dX9_add_0 ?_
  refine g_iconst (pc := 1) X 4 (by decide) dX9_add_1 ?_
  refine g_callV (pc := 2) X (c_space_4_12 l Z t0 t_bytes t_kinds t_places t_values) iM_X9_hasSpaceFor mw_10_13 mw_10_5 mw_10_6 0 rfl rfl [0] [1] rfl (wr := [(t_bytes, .inl (Z.2.1 0, 400, .inl f))]) rfl (by decide) rfl rfl (Nat.le_of_ble_eq_true rfl) (by decide) dX9_add_2 (fun r w' hpo => ?_)
  obtain ⟨rfl, rfl⟩ := hpo
  refine g_as (pc' := 5) (lv' := [(0, .ref t0), (1, .int x1)]) (st' := [.int 1]) (ws' := [(t_bytes, .inl (Z.2.1 0, 400, .inl f)), (t0, .inr (9, [.ref t_bytes, .int 12, .int 0, .ref t_kinds, .ref t_places, .ref t_values]))]) rfl rfl rfl rfl ?_
  refine g_if_ne (pc := 5) X 9 (by decide) dX9_add_5 (fun b5 => ?_) (fun h => absurd h (by decide))
  refine g_bipush (pc := 9) X 24 (by decide) dX9_add_9 ?_
  refine g_istore_n (pc := 11) X (i := 2) rfl (by decide) (lv' := [(2, .int 24), (0, .ref t0), (1, .int x1)]) rfl dX9_add_11 ?_
  refine g_iload_n (pc := 12) X 0 rfl dX9_add_12 ?_
  refine g_if_lt (pc := 13) X 48 (by decide) dX9_add_13 (fun h => absurd h (by decide)) (fun b13 => ?_)
  refine g_aload_n (pc := 16) X 1 rfl dX9_add_16 ?_
  refine g_get (pc := 17) X inlX9 1 rfl rfl 0 (by decide) mw_3_12 rfl dX9_add_17 ?_
  refine g_aload_n (pc := 20) X 1 rfl dX9_add_20 ?_
  refine g_get (pc := 21) X inlX9 1 rfl rfl 1 (by decide) mw_10_8 rfl dX9_add_21 ?_
  refine g_iload_n (pc := 24) X 2 rfl dX9_add_24 ?_
  refine g_iload_n (pc := 25) X 0 rfl dX9_add_25 ?_
  refine g_iushr (pc := 26) X dX9_add_26 ?_
  refine g_sipush (pc := 27) X 255 (by decide) dX9_add_27 ?_
  refine g_iand (pc := 30) X dX9_add_30 ?_
  refine g_iastF (pc := 31) X 0 rfl (vp_in_iff.mpr (by decide)) (ws' := fun f1 => [(t_bytes, .inl (Z.2.1 0, 400, .inl f1)), (t0, .inr (9, [.ref t_bytes, .int 12, .int 0, .ref t_kinds, .ref t_places, .ref t_values]))]) (fun _ => rfl) dX9_add_31 (fun f1 => ?_)
  refine g_aload_n (pc := 32) X 1 rfl dX9_add_32 ?_
  refine g_dup (pc := 33) X rfl dX9_add_33 ?_
  refine g_get (pc := 34) X inlX9 1 rfl rfl 1 (by decide) mw_10_8 rfl dX9_add_34 ?_
  refine g_iconst (pc := 37) X 1 (by decide) dX9_add_37 ?_
  refine g_iadd (pc := 38) X dX9_add_38 ?_
  refine g_lit (y := 13) (by decide) ?_
  refine g_put (pc := 39) X inlX9 tyX9_ok nmX9 1 rfl rfl 1 (by decide) mw_10_8 rfl rfl rfl (Nat.le_of_ble_eq_true rfl) (ws' := [(t_bytes, .inl (Z.2.1 0, 400, .inl f1)), (t0, .inr (9, [.ref t_bytes, .int 13, .int 0, .ref t_kinds, .ref t_places, .ref t_values]))]) rfl dX9_add_39 ?_
  refine g_iinc (pc := 42) X 0 rfl (v := 16) (by decide) (by decide) (lv' := [(2, .int 16), (0, .ref t0), (1, .int x1)]) rfl dX9_add_42 ?_
  refine g_goto (pc := 45) X 12 (by decide) dX9_add_45 ?_
  refine g_iload_n (pc := 12) X 0 rfl dX9_add_12 ?_
  refine g_if_lt (pc := 13) X 48 (by decide) dX9_add_13 (fun h => absurd h (by decide)) (fun b13 => ?_)
  refine g_aload_n (pc := 16) X 1 rfl dX9_add_16 ?_
  refine g_get (pc := 17) X inlX9 1 rfl rfl 0 (by decide) mw_3_12 rfl dX9_add_17 ?_
  refine g_aload_n (pc := 20) X 1 rfl dX9_add_20 ?_
  refine g_get (pc := 21) X inlX9 1 rfl rfl 1 (by decide) mw_10_8 rfl dX9_add_21 ?_
  refine g_iload_n (pc := 24) X 2 rfl dX9_add_24 ?_
  refine g_iload_n (pc := 25) X 0 rfl dX9_add_25 ?_
  refine g_iushr (pc := 26) X dX9_add_26 ?_
  refine g_sipush (pc := 27) X 255 (by decide) dX9_add_27 ?_
  refine g_iand (pc := 30) X dX9_add_30 ?_
  refine g_iastF (pc := 31) X 0 rfl (vp_in_iff.mpr (by decide)) (ws' := fun f2 => [(t_bytes, .inl (Z.2.1 0, 400, .inl f2)), (t0, .inr (9, [.ref t_bytes, .int 13, .int 0, .ref t_kinds, .ref t_places, .ref t_values]))]) (fun _ => rfl) dX9_add_31 (fun f2 => ?_)
  refine g_aload_n (pc := 32) X 1 rfl dX9_add_32 ?_
  refine g_dup (pc := 33) X rfl dX9_add_33 ?_
  refine g_get (pc := 34) X inlX9 1 rfl rfl 1 (by decide) mw_10_8 rfl dX9_add_34 ?_
  refine g_iconst (pc := 37) X 1 (by decide) dX9_add_37 ?_
  refine g_iadd (pc := 38) X dX9_add_38 ?_
  refine g_lit (y := 14) (by decide) ?_
  refine g_put (pc := 39) X inlX9 tyX9_ok nmX9 1 rfl rfl 1 (by decide) mw_10_8 rfl rfl rfl (Nat.le_of_ble_eq_true rfl) (ws' := [(t_bytes, .inl (Z.2.1 0, 400, .inl f2)), (t0, .inr (9, [.ref t_bytes, .int 14, .int 0, .ref t_kinds, .ref t_places, .ref t_values]))]) rfl dX9_add_39 ?_
  refine g_iinc (pc := 42) X 0 rfl (v := 8) (by decide) (by decide) (lv' := [(2, .int 8), (0, .ref t0), (1, .int x1)]) rfl dX9_add_42 ?_
  refine g_goto (pc := 45) X 12 (by decide) dX9_add_45 ?_
  refine g_iload_n (pc := 12) X 0 rfl dX9_add_12 ?_
  refine g_if_lt (pc := 13) X 48 (by decide) dX9_add_13 (fun h => absurd h (by decide)) (fun b13 => ?_)
  refine g_aload_n (pc := 16) X 1 rfl dX9_add_16 ?_
  refine g_get (pc := 17) X inlX9 1 rfl rfl 0 (by decide) mw_3_12 rfl dX9_add_17 ?_
  refine g_aload_n (pc := 20) X 1 rfl dX9_add_20 ?_
  refine g_get (pc := 21) X inlX9 1 rfl rfl 1 (by decide) mw_10_8 rfl dX9_add_21 ?_
  refine g_iload_n (pc := 24) X 2 rfl dX9_add_24 ?_
  refine g_iload_n (pc := 25) X 0 rfl dX9_add_25 ?_
  refine g_iushr (pc := 26) X dX9_add_26 ?_
  refine g_sipush (pc := 27) X 255 (by decide) dX9_add_27 ?_
  refine g_iand (pc := 30) X dX9_add_30 ?_
  refine g_iastF (pc := 31) X 0 rfl (vp_in_iff.mpr (by decide)) (ws' := fun f3 => [(t_bytes, .inl (Z.2.1 0, 400, .inl f3)), (t0, .inr (9, [.ref t_bytes, .int 14, .int 0, .ref t_kinds, .ref t_places, .ref t_values]))]) (fun _ => rfl) dX9_add_31 (fun f3 => ?_)
  refine g_aload_n (pc := 32) X 1 rfl dX9_add_32 ?_
  refine g_dup (pc := 33) X rfl dX9_add_33 ?_
  refine g_get (pc := 34) X inlX9 1 rfl rfl 1 (by decide) mw_10_8 rfl dX9_add_34 ?_
  refine g_iconst (pc := 37) X 1 (by decide) dX9_add_37 ?_
  refine g_iadd (pc := 38) X dX9_add_38 ?_
  refine g_lit (y := 15) (by decide) ?_
  refine g_put (pc := 39) X inlX9 tyX9_ok nmX9 1 rfl rfl 1 (by decide) mw_10_8 rfl rfl rfl (Nat.le_of_ble_eq_true rfl) (ws' := [(t_bytes, .inl (Z.2.1 0, 400, .inl f3)), (t0, .inr (9, [.ref t_bytes, .int 15, .int 0, .ref t_kinds, .ref t_places, .ref t_values]))]) rfl dX9_add_39 ?_
  refine g_iinc (pc := 42) X 0 rfl (v := 0) (by decide) (by decide) (lv' := [(2, .int 0), (0, .ref t0), (1, .int x1)]) rfl dX9_add_42 ?_
  refine g_goto (pc := 45) X 12 (by decide) dX9_add_45 ?_
  refine g_iload_n (pc := 12) X 0 rfl dX9_add_12 ?_
  refine g_if_lt (pc := 13) X 48 (by decide) dX9_add_13 (fun h => absurd h (by decide)) (fun b13 => ?_)
  refine g_aload_n (pc := 16) X 1 rfl dX9_add_16 ?_
  refine g_get (pc := 17) X inlX9 1 rfl rfl 0 (by decide) mw_3_12 rfl dX9_add_17 ?_
  refine g_aload_n (pc := 20) X 1 rfl dX9_add_20 ?_
  refine g_get (pc := 21) X inlX9 1 rfl rfl 1 (by decide) mw_10_8 rfl dX9_add_21 ?_
  refine g_iload_n (pc := 24) X 2 rfl dX9_add_24 ?_
  refine g_iload_n (pc := 25) X 0 rfl dX9_add_25 ?_
  refine g_iushr (pc := 26) X dX9_add_26 ?_
  refine g_sipush (pc := 27) X 255 (by decide) dX9_add_27 ?_
  refine g_iand (pc := 30) X dX9_add_30 ?_
  refine g_iastF (pc := 31) X 0 rfl (vp_in_iff.mpr (by decide)) (ws' := fun f4 => [(t_bytes, .inl (Z.2.1 0, 400, .inl f4)), (t0, .inr (9, [.ref t_bytes, .int 15, .int 0, .ref t_kinds, .ref t_places, .ref t_values]))]) (fun _ => rfl) dX9_add_31 (fun f4 => ?_)
  refine g_aload_n (pc := 32) X 1 rfl dX9_add_32 ?_
  refine g_dup (pc := 33) X rfl dX9_add_33 ?_
  refine g_get (pc := 34) X inlX9 1 rfl rfl 1 (by decide) mw_10_8 rfl dX9_add_34 ?_
  refine g_iconst (pc := 37) X 1 (by decide) dX9_add_37 ?_
  refine g_iadd (pc := 38) X dX9_add_38 ?_
  refine g_lit (y := 16) (by decide) ?_
  refine g_put (pc := 39) X inlX9 tyX9_ok nmX9 1 rfl rfl 1 (by decide) mw_10_8 rfl rfl rfl (Nat.le_of_ble_eq_true rfl) (ws' := [(t_bytes, .inl (Z.2.1 0, 400, .inl f4)), (t0, .inr (9, [.ref t_bytes, .int 16, .int 0, .ref t_kinds, .ref t_places, .ref t_values]))]) rfl dX9_add_39 ?_
  refine g_iinc (pc := 42) X 0 rfl (v := (-8)) (by decide) (by decide) (lv' := [(2, .int (-8)), (0, .ref t0), (1, .int x1)]) rfl dX9_add_42 ?_
  refine g_goto (pc := 45) X 12 (by decide) dX9_add_45 ?_
  refine g_iload_n (pc := 12) X 0 rfl dX9_add_12 ?_
  refine g_if_lt (pc := 13) X 48 (by decide) dX9_add_13 (fun b13 => ?_) (fun h => absurd (by decide) h)
  exact g_vret (pc := 48) X hA (⟨f4, rfl, rfl⟩) (by decide) (by decide) dX9_add_48

set_option maxHeartbeats 4000000 in
set_option maxRecDepth 100000 in
theorem c_add_16 (l : Launch) (Z : gZ) (t0 : Nat) (t_bytes : Nat) (t_kinds : Nat) (t_places : Nat) (t_values : Nat) (f : Nat → Int32) (x1 : Int32) : Con l Z yX9_add cX9_add 3 none 1 21 0 0 [.ref t0, .int x1] [(t0, .inr (9, [.ref t_bytes, .int 16, .int 0, .ref t_kinds, .ref t_places, .ref t_values])), (t_bytes, .inl (Z.2.1 0, 400, .inl f))] (fun r w' => ∃ (f4 : Nat → Int32), r = none ∧ w' = [(t_bytes, .inl (Z.2.1 0, 400, .inl f4)), (t0, .inr (9, [.ref t_bytes, .int 20, .int 0, .ref t_kinds, .ref t_places, .ref t_values]))]) := by
  refine enter (by decide) (Nat.le_of_ble_eq_true rfl) ?_
  intro p e s m args below meth c A X hnm hA
  have X : Cx p s m args meth c cX9_add 3 none RX9 Z A := X
  refine g_as (pc' := 0) (lv' := [(0, .ref t0), (1, .int x1)]) (st' := []) (ws' := [(t0, .inr (9, [.ref t_bytes, .int 16, .int 0, .ref t_kinds, .ref t_places, .ref t_values])), (t_bytes, .inl (Z.2.1 0, 400, .inl f))]) rfl rfl rfl rfl ?_
  refine g_aload_n (pc := 0) X 0 rfl dX9_add_0 ?_
  refine g_iconst (pc := 1) X 4 (by decide) dX9_add_1 ?_
  refine g_callV (pc := 2) X (c_space_4_16 l Z t0 t_bytes t_kinds t_places t_values) iM_X9_hasSpaceFor mw_10_13 mw_10_5 mw_10_6 0 rfl rfl [0] [1] rfl (wr := [(t_bytes, .inl (Z.2.1 0, 400, .inl f))]) rfl (by decide) rfl rfl (Nat.le_of_ble_eq_true rfl) (by decide) dX9_add_2 (fun r w' hpo => ?_)
  obtain ⟨rfl, rfl⟩ := hpo
  refine g_as (pc' := 5) (lv' := [(0, .ref t0), (1, .int x1)]) (st' := [.int 1]) (ws' := [(t_bytes, .inl (Z.2.1 0, 400, .inl f)), (t0, .inr (9, [.ref t_bytes, .int 16, .int 0, .ref t_kinds, .ref t_places, .ref t_values]))]) rfl rfl rfl rfl ?_
  refine g_if_ne (pc := 5) X 9 (by decide) dX9_add_5 (fun b5 => ?_) (fun h => absurd h (by decide))
  refine g_bipush (pc := 9) X 24 (by decide) dX9_add_9 ?_
  refine g_istore_n (pc := 11) X (i := 2) rfl (by decide) (lv' := [(2, .int 24), (0, .ref t0), (1, .int x1)]) rfl dX9_add_11 ?_
  refine g_iload_n (pc := 12) X 0 rfl dX9_add_12 ?_
  refine g_if_lt (pc := 13) X 48 (by decide) dX9_add_13 (fun h => absurd h (by decide)) (fun b13 => ?_)
  refine g_aload_n (pc := 16) X 1 rfl dX9_add_16 ?_
  refine g_get (pc := 17) X inlX9 1 rfl rfl 0 (by decide) mw_3_12 rfl dX9_add_17 ?_
  refine g_aload_n (pc := 20) X 1 rfl dX9_add_20 ?_
  refine g_get (pc := 21) X inlX9 1 rfl rfl 1 (by decide) mw_10_8 rfl dX9_add_21 ?_
  refine g_iload_n (pc := 24) X 2 rfl dX9_add_24 ?_
  refine g_iload_n (pc := 25) X 0 rfl dX9_add_25 ?_
  refine g_iushr (pc := 26) X dX9_add_26 ?_
  refine g_sipush (pc := 27) X 255 (by decide) dX9_add_27 ?_
  refine g_iand (pc := 30) X dX9_add_30 ?_
  refine g_iastF (pc := 31) X 0 rfl (vp_in_iff.mpr (by decide)) (ws' := fun f1 => [(t_bytes, .inl (Z.2.1 0, 400, .inl f1)), (t0, .inr (9, [.ref t_bytes, .int 16, .int 0, .ref t_kinds, .ref t_places, .ref t_values]))]) (fun _ => rfl) dX9_add_31 (fun f1 => ?_)
  refine g_aload_n (pc := 32) X 1 rfl dX9_add_32 ?_
  refine g_dup (pc := 33) X rfl dX9_add_33 ?_
  refine g_get (pc := 34) X inlX9 1 rfl rfl 1 (by decide) mw_10_8 rfl dX9_add_34 ?_
  refine g_iconst (pc := 37) X 1 (by decide) dX9_add_37 ?_
  refine g_iadd (pc := 38) X dX9_add_38 ?_
  refine g_lit (y := 17) (by decide) ?_
  refine g_put (pc := 39) X inlX9 tyX9_ok nmX9 1 rfl rfl 1 (by decide) mw_10_8 rfl rfl rfl (Nat.le_of_ble_eq_true rfl) (ws' := [(t_bytes, .inl (Z.2.1 0, 400, .inl f1)), (t0, .inr (9, [.ref t_bytes, .int 17, .int 0, .ref t_kinds, .ref t_places, .ref t_values]))]) rfl dX9_add_39 ?_
  refine g_iinc (pc := 42) X 0 rfl (v := 16) (by decide) (by decide) (lv' := [(2, .int 16), (0, .ref t0), (1, .int x1)]) rfl dX9_add_42 ?_
  refine g_goto (pc := 45) X 12 (by decide) dX9_add_45 ?_
  refine g_iload_n (pc := 12) X 0 rfl dX9_add_12 ?_
  refine g_if_lt (pc := 13) X 48 (by decide) dX9_add_13 (fun h => absurd h (by decide)) (fun b13 => ?_)
  refine g_aload_n (pc := 16) X 1 rfl dX9_add_16 ?_
  refine g_get (pc := 17) X inlX9 1 rfl rfl 0 (by decide) mw_3_12 rfl dX9_add_17 ?_
  refine g_aload_n (pc := 20) X 1 rfl dX9_add_20 ?_
  refine g_get (pc := 21) X inlX9 1 rfl rfl 1 (by decide) mw_10_8 rfl dX9_add_21 ?_
  refine g_iload_n (pc := 24) X 2 rfl dX9_add_24 ?_
  refine g_iload_n (pc := 25) X 0 rfl dX9_add_25 ?_
  refine g_iushr (pc := 26) X dX9_add_26 ?_
  refine g_sipush (pc := 27) X 255 (by decide) dX9_add_27 ?_
  refine g_iand (pc := 30) X dX9_add_30 ?_
  refine g_iastF (pc := 31) X 0 rfl (vp_in_iff.mpr (by decide)) (ws' := fun f2 => [(t_bytes, .inl (Z.2.1 0, 400, .inl f2)), (t0, .inr (9, [.ref t_bytes, .int 17, .int 0, .ref t_kinds, .ref t_places, .ref t_values]))]) (fun _ => rfl) dX9_add_31 (fun f2 => ?_)
  refine g_aload_n (pc := 32) X 1 rfl dX9_add_32 ?_
  refine g_dup (pc := 33) X rfl dX9_add_33 ?_
  refine g_get (pc := 34) X inlX9 1 rfl rfl 1 (by decide) mw_10_8 rfl dX9_add_34 ?_
  refine g_iconst (pc := 37) X 1 (by decide) dX9_add_37 ?_
  refine g_iadd (pc := 38) X dX9_add_38 ?_
  refine g_lit (y := 18) (by decide) ?_
  refine g_put (pc := 39) X inlX9 tyX9_ok nmX9 1 rfl rfl 1 (by decide) mw_10_8 rfl rfl rfl (Nat.le_of_ble_eq_true rfl) (ws' := [(t_bytes, .inl (Z.2.1 0, 400, .inl f2)), (t0, .inr (9, [.ref t_bytes, .int 18, .int 0, .ref t_kinds, .ref t_places, .ref t_values]))]) rfl dX9_add_39 ?_
  refine g_iinc (pc := 42) X 0 rfl (v := 8) (by decide) (by decide) (lv' := [(2, .int 8), (0, .ref t0), (1, .int x1)]) rfl dX9_add_42 ?_
  refine g_goto (pc := 45) X 12 (by decide) dX9_add_45 ?_
  refine g_iload_n (pc := 12) X 0 rfl dX9_add_12 ?_
  refine g_if_lt (pc := 13) X 48 (by decide) dX9_add_13 (fun h => absurd h (by decide)) (fun b13 => ?_)
  refine g_aload_n (pc := 16) X 1 rfl dX9_add_16 ?_
  refine g_get (pc := 17) X inlX9 1 rfl rfl 0 (by decide) mw_3_12 rfl dX9_add_17 ?_
  refine g_aload_n (pc := 20) X 1 rfl dX9_add_20 ?_
  refine g_get (pc := 21) X inlX9 1 rfl rfl 1 (by decide) mw_10_8 rfl dX9_add_21 ?_
  refine g_iload_n (pc := 24) X 2 rfl dX9_add_24 ?_
  refine g_iload_n (pc := 25) X 0 rfl dX9_add_25 ?_
  refine g_iushr (pc := 26) X dX9_add_26 ?_
  refine g_sipush (pc := 27) X 255 (by decide) dX9_add_27 ?_
  refine g_iand (pc := 30) X dX9_add_30 ?_
  refine g_iastF (pc := 31) X 0 rfl (vp_in_iff.mpr (by decide)) (ws' := fun f3 => [(t_bytes, .inl (Z.2.1 0, 400, .inl f3)), (t0, .inr (9, [.ref t_bytes, .int 18, .int 0, .ref t_kinds, .ref t_places, .ref t_values]))]) (fun _ => rfl) dX9_add_31 (fun f3 => ?_)
  refine g_aload_n (pc := 32) X 1 rfl dX9_add_32 ?_
  refine g_dup (pc := 33) X rfl dX9_add_33 ?_
  refine g_get (pc := 34) X inlX9 1 rfl rfl 1 (by decide) mw_10_8 rfl dX9_add_34 ?_
  refine g_iconst (pc := 37) X 1 (by decide) dX9_add_37 ?_
  refine g_iadd (pc := 38) X dX9_add_38 ?_
  refine g_lit (y := 19) (by decide) ?_
  refine g_put (pc := 39) X inlX9 tyX9_ok nmX9 1 rfl rfl 1 (by decide) mw_10_8 rfl rfl rfl (Nat.le_of_ble_eq_true rfl) (ws' := [(t_bytes, .inl (Z.2.1 0, 400, .inl f3)), (t0, .inr (9, [.ref t_bytes, .int 19, .int 0, .ref t_kinds, .ref t_places, .ref t_values]))]) rfl dX9_add_39 ?_
  refine g_iinc (pc := 42) X 0 rfl (v := 0) (by decide) (by decide) (lv' := [(2, .int 0), (0, .ref t0), (1, .int x1)]) rfl dX9_add_42 ?_
  refine g_goto (pc := 45) X 12 (by decide) dX9_add_45 ?_
  refine g_iload_n (pc := 12) X 0 rfl dX9_add_12 ?_
  refine g_if_lt (pc := 13) X 48 (by decide) dX9_add_13 (fun h => absurd h (by decide)) (fun b13 => ?_)
  refine g_aload_n (pc := 16) X 1 rfl dX9_add_16 ?_
  refine g_get (pc := 17) X inlX9 1 rfl rfl 0 (by decide) mw_3_12 rfl dX9_add_17 ?_
  refine g_aload_n (pc := 20) X 1 rfl dX9_add_20 ?_
  refine g_get (pc := 21) X inlX9 1 rfl rfl 1 (by decide) mw_10_8 rfl dX9_add_21 ?_
  refine g_iload_n (pc := 24) X 2 rfl dX9_add_24 ?_
  refine g_iload_n (pc := 25) X 0 rfl dX9_add_25 ?_
  refine g_iushr (pc := 26) X dX9_add_26 ?_
  refine g_sipush (pc := 27) X 255 (by decide) dX9_add_27 ?_
  refine g_iand (pc := 30) X dX9_add_30 ?_
  refine g_iastF (pc := 31) X 0 rfl (vp_in_iff.mpr (by decide)) (ws' := fun f4 => [(t_bytes, .inl (Z.2.1 0, 400, .inl f4)), (t0, .inr (9, [.ref t_bytes, .int 19, .int 0, .ref t_kinds, .ref t_places, .ref t_values]))]) (fun _ => rfl) dX9_add_31 (fun f4 => ?_)
  refine g_aload_n (pc := 32) X 1 rfl dX9_add_32 ?_
  refine g_dup (pc := 33) X rfl dX9_add_33 ?_
  refine g_get (pc := 34) X inlX9 1 rfl rfl 1 (by decide) mw_10_8 rfl dX9_add_34 ?_
  refine g_iconst (pc := 37) X 1 (by decide) dX9_add_37 ?_
  refine g_iadd (pc := 38) X dX9_add_38 ?_
  refine g_lit (y := 20) (by decide) ?_
  refine g_put (pc := 39) X inlX9 tyX9_ok nmX9 1 rfl rfl 1 (by decide) mw_10_8 rfl rfl rfl (Nat.le_of_ble_eq_true rfl) (ws' := [(t_bytes, .inl (Z.2.1 0, 400, .inl f4)), (t0, .inr (9, [.ref t_bytes, .int 20, .int 0, .ref t_kinds, .ref t_places, .ref t_values]))]) rfl dX9_add_39 ?_
  refine g_iinc (pc := 42) X 0 rfl (v := (-8)) (by decide) (by decide) (lv' := [(2, .int (-8)), (0, .ref t0), (1, .int x1)]) rfl dX9_add_42 ?_
  refine g_goto (pc := 45) X 12 (by decide) dX9_add_45 ?_
  refine g_iload_n (pc := 12) X 0 rfl dX9_add_12 ?_
  refine g_if_lt (pc := 13) X 48 (by decide) dX9_add_13 (fun b13 => ?_) (fun h => absurd (by decide) h)
  exact g_vret (pc := 48) X hA (⟨f4, rfl, rfl⟩) (by decide) (by decide) dX9_add_48

set_option maxHeartbeats 4000000 in
set_option maxRecDepth 100000 in
theorem c_feed (l : Launch) (Z : gZ) (h0 : Nat) (a1 : Nat) (a2 : Nat) (a3 : Nat) (a4 : Nat) (a5 : Nat) (a6 : Nat) (a7 : Nat) (a8 : Nat) (a9 : Nat) (a10 : Nat) (a11 : Nat) (a12 : Nat) (t_bytes : Nat) (t_kinds : Nat) (t_places : Nat) (t_values : Nat) (f : Nat → Int32) (x1 : Int32) (x2 : Int32) (x3 : Int32) (x4 : Int32) (x5 : Int32) : Con l Z yX11_feed cX11_feed 6 (some .int) 2 43 0 0 [.ref h0, .int x1, .int x2, .int x3, .int x4, .int x5] [(h0, .inr (11, [.ref a1, .ref a2, .ref a3, .ref a4, .ref a5, .ref a6, .ref a7, .ref a8, .ref a9, .ref a10, .ref a11, .ref a12, .int 0, .int 0, .int 5])), (a1, .inr (9, [.ref t_bytes, .int 0, .int 0, .ref t_kinds, .ref t_places, .ref t_values])), (t_bytes, .inl (Z.2.1 0, 400, .inl f))] (fun r w' => r = some (.int 20)) := by
  refine enter (by decide) (Nat.le_of_ble_eq_true rfl) ?_
  intro p e s m args below meth c A X hnm hA
  have X : Cx p s m args meth c cX11_feed 6 (some .int) RX11 Z A := X
  refine g_as (pc' := 0) (lv' := [(0, .ref h0), (1, .int x1), (2, .int x2), (3, .int x3), (4, .int x4), (5, .int x5)]) (st' := []) (ws' := [(h0, .inr (11, [.ref a1, .ref a2, .ref a3, .ref a4, .ref a5, .ref a6, .ref a7, .ref a8, .ref a9, .ref a10, .ref a11, .ref a12, .int 0, .int 0, .int 5])), (a1, .inr (9, [.ref t_bytes, .int 0, .int 0, .ref t_kinds, .ref t_places, .ref t_values])), (t_bytes, .inl (Z.2.1 0, 400, .inl f))]) rfl rfl rfl rfl ?_
  refine g_aload_n (pc := 0) X 0 rfl dX11_feed_0 ?_
  refine g_get (pc := 1) X inlX11 0 rfl rfl 0 (by decide) mw_1_15 rfl dX11_feed_1 ?_
  refine g_bipush (pc := 4) X 20 (by decide) dX11_feed_4 ?_
  refine g_callV (pc := 6) X (c_space_20_0 l Z a1 t_bytes t_kinds t_places t_values) iM_X9_hasSpaceFor mw_10_4 mw_10_5 mw_10_6 1 rfl rfl [1] [0, 2] rfl (wr := [(h0, .inr (11, [.ref a1, .ref a2, .ref a3, .ref a4, .ref a5, .ref a6, .ref a7, .ref a8, .ref a9, .ref a10, .ref a11, .ref a12, .int 0, .int 0, .int 5])), (t_bytes, .inl (Z.2.1 0, 400, .inl f))]) rfl (by decide) rfl rfl (Nat.le_of_ble_eq_true rfl) (by decide) dX11_feed_6 (fun r w' hpo => ?_)
  obtain ⟨rfl, rfl⟩ := hpo
  refine g_as (pc' := 9) (lv' := [(0, .ref h0), (1, .int x1), (2, .int x2), (3, .int x3), (4, .int x4), (5, .int x5)]) (st' := [.int 1]) (ws' := [(h0, .inr (11, [.ref a1, .ref a2, .ref a3, .ref a4, .ref a5, .ref a6, .ref a7, .ref a8, .ref a9, .ref a10, .ref a11, .ref a12, .int 0, .int 0, .int 5])), (t_bytes, .inl (Z.2.1 0, 400, .inl f)), (a1, .inr (9, [.ref t_bytes, .int 0, .int 0, .ref t_kinds, .ref t_places, .ref t_values]))]) rfl rfl rfl rfl ?_
  refine g_if_ne (pc := 9) X 14 (by decide) dX11_feed_9 (fun b9 => ?_) (fun h => absurd h (by decide))
  refine g_aload_n (pc := 14) X 0 rfl dX11_feed_14 ?_
  refine g_get (pc := 15) X inlX11 0 rfl rfl 0 (by decide) mw_1_15 rfl dX11_feed_15 ?_
  refine g_iload_n (pc := 18) X 1 rfl dX11_feed_18 ?_
  refine g_callV (pc := 19) X (c_add_0 l Z a1 t_bytes t_kinds t_places t_values f x1) iM_X9_add mw_10_9 mw_10_10 mw_10_11 2 rfl rfl [2, 1] [0] rfl (wr := [(h0, .inr (11, [.ref a1, .ref a2, .ref a3, .ref a4, .ref a5, .ref a6, .ref a7, .ref a8, .ref a9, .ref a10, .ref a11, .ref a12, .int 0, .int 0, .int 5]))]) rfl (by decide) rfl rfl (Nat.le_of_ble_eq_true rfl) (by decide) dX11_feed_19 (fun r w' hpo => ?_)
  obtain ⟨f1, rfl, rfl⟩ := hpo
  refine g_as (pc' := 22) (lv' := [(0, .ref h0), (1, .int x1), (2, .int x2), (3, .int x3), (4, .int x4), (5, .int x5)]) (st' := []) (ws' := [(h0, .inr (11, [.ref a1, .ref a2, .ref a3, .ref a4, .ref a5, .ref a6, .ref a7, .ref a8, .ref a9, .ref a10, .ref a11, .ref a12, .int 0, .int 0, .int 5])), (t_bytes, .inl (Z.2.1 0, 400, .inl f1)), (a1, .inr (9, [.ref t_bytes, .int 4, .int 0, .ref t_kinds, .ref t_places, .ref t_values]))]) rfl rfl rfl rfl ?_
  refine g_aload_n (pc := 22) X 0 rfl dX11_feed_22 ?_
  refine g_get (pc := 23) X inlX11 0 rfl rfl 0 (by decide) mw_1_15 rfl dX11_feed_23 ?_
  refine g_iload_n (pc := 26) X 2 rfl dX11_feed_26 ?_
  refine g_callV (pc := 27) X (c_add_4 l Z a1 t_bytes t_kinds t_places t_values f1 x2) iM_X9_add mw_10_9 mw_10_10 mw_10_11 2 rfl rfl [2, 1] [0] rfl (wr := [(h0, .inr (11, [.ref a1, .ref a2, .ref a3, .ref a4, .ref a5, .ref a6, .ref a7, .ref a8, .ref a9, .ref a10, .ref a11, .ref a12, .int 0, .int 0, .int 5]))]) rfl (by decide) rfl rfl (Nat.le_of_ble_eq_true rfl) (by decide) dX11_feed_27 (fun r w' hpo => ?_)
  obtain ⟨f2, rfl, rfl⟩ := hpo
  refine g_as (pc' := 30) (lv' := [(0, .ref h0), (1, .int x1), (2, .int x2), (3, .int x3), (4, .int x4), (5, .int x5)]) (st' := []) (ws' := [(h0, .inr (11, [.ref a1, .ref a2, .ref a3, .ref a4, .ref a5, .ref a6, .ref a7, .ref a8, .ref a9, .ref a10, .ref a11, .ref a12, .int 0, .int 0, .int 5])), (t_bytes, .inl (Z.2.1 0, 400, .inl f2)), (a1, .inr (9, [.ref t_bytes, .int 8, .int 0, .ref t_kinds, .ref t_places, .ref t_values]))]) rfl rfl rfl rfl ?_
  refine g_aload_n (pc := 30) X 0 rfl dX11_feed_30 ?_
  refine g_get (pc := 31) X inlX11 0 rfl rfl 0 (by decide) mw_1_15 rfl dX11_feed_31 ?_
  refine g_iload_n (pc := 34) X 3 rfl dX11_feed_34 ?_
  refine g_callV (pc := 35) X (c_add_8 l Z a1 t_bytes t_kinds t_places t_values f2 x3) iM_X9_add mw_10_9 mw_10_10 mw_10_11 2 rfl rfl [2, 1] [0] rfl (wr := [(h0, .inr (11, [.ref a1, .ref a2, .ref a3, .ref a4, .ref a5, .ref a6, .ref a7, .ref a8, .ref a9, .ref a10, .ref a11, .ref a12, .int 0, .int 0, .int 5]))]) rfl (by decide) rfl rfl (Nat.le_of_ble_eq_true rfl) (by decide) dX11_feed_35 (fun r w' hpo => ?_)
  obtain ⟨f3, rfl, rfl⟩ := hpo
  refine g_as (pc' := 38) (lv' := [(0, .ref h0), (1, .int x1), (2, .int x2), (3, .int x3), (4, .int x4), (5, .int x5)]) (st' := []) (ws' := [(h0, .inr (11, [.ref a1, .ref a2, .ref a3, .ref a4, .ref a5, .ref a6, .ref a7, .ref a8, .ref a9, .ref a10, .ref a11, .ref a12, .int 0, .int 0, .int 5])), (t_bytes, .inl (Z.2.1 0, 400, .inl f3)), (a1, .inr (9, [.ref t_bytes, .int 12, .int 0, .ref t_kinds, .ref t_places, .ref t_values]))]) rfl rfl rfl rfl ?_
  refine g_aload_n (pc := 38) X 0 rfl dX11_feed_38 ?_
  refine g_get (pc := 39) X inlX11 0 rfl rfl 0 (by decide) mw_1_15 rfl dX11_feed_39 ?_
  refine g_iload (pc := 42) X 4 rfl dX11_feed_42 ?_
  refine g_callV (pc := 44) X (c_add_12 l Z a1 t_bytes t_kinds t_places t_values f3 x4) iM_X9_add mw_10_9 mw_10_10 mw_10_11 2 rfl rfl [2, 1] [0] rfl (wr := [(h0, .inr (11, [.ref a1, .ref a2, .ref a3, .ref a4, .ref a5, .ref a6, .ref a7, .ref a8, .ref a9, .ref a10, .ref a11, .ref a12, .int 0, .int 0, .int 5]))]) rfl (by decide) rfl rfl (Nat.le_of_ble_eq_true rfl) (by decide) dX11_feed_44 (fun r w' hpo => ?_)
  obtain ⟨f4, rfl, rfl⟩ := hpo
  refine g_as (pc' := 47) (lv' := [(0, .ref h0), (1, .int x1), (2, .int x2), (3, .int x3), (4, .int x4), (5, .int x5)]) (st' := []) (ws' := [(h0, .inr (11, [.ref a1, .ref a2, .ref a3, .ref a4, .ref a5, .ref a6, .ref a7, .ref a8, .ref a9, .ref a10, .ref a11, .ref a12, .int 0, .int 0, .int 5])), (t_bytes, .inl (Z.2.1 0, 400, .inl f4)), (a1, .inr (9, [.ref t_bytes, .int 16, .int 0, .ref t_kinds, .ref t_places, .ref t_values]))]) rfl rfl rfl rfl ?_
  refine g_aload_n (pc := 47) X 0 rfl dX11_feed_47 ?_
  refine g_get (pc := 48) X inlX11 0 rfl rfl 0 (by decide) mw_1_15 rfl dX11_feed_48 ?_
  refine g_iload (pc := 51) X 5 rfl dX11_feed_51 ?_
  refine g_callV (pc := 53) X (c_add_16 l Z a1 t_bytes t_kinds t_places t_values f4 x5) iM_X9_add mw_10_9 mw_10_10 mw_10_11 2 rfl rfl [2, 1] [0] rfl (wr := [(h0, .inr (11, [.ref a1, .ref a2, .ref a3, .ref a4, .ref a5, .ref a6, .ref a7, .ref a8, .ref a9, .ref a10, .ref a11, .ref a12, .int 0, .int 0, .int 5]))]) rfl (by decide) rfl rfl (Nat.le_of_ble_eq_true rfl) (by decide) dX11_feed_53 (fun r w' hpo => ?_)
  obtain ⟨f5, rfl, rfl⟩ := hpo
  refine g_as (pc' := 56) (lv' := [(0, .ref h0), (1, .int x1), (2, .int x2), (3, .int x3), (4, .int x4), (5, .int x5)]) (st' := []) (ws' := [(h0, .inr (11, [.ref a1, .ref a2, .ref a3, .ref a4, .ref a5, .ref a6, .ref a7, .ref a8, .ref a9, .ref a10, .ref a11, .ref a12, .int 0, .int 0, .int 5])), (t_bytes, .inl (Z.2.1 0, 400, .inl f5)), (a1, .inr (9, [.ref t_bytes, .int 20, .int 0, .ref t_kinds, .ref t_places, .ref t_values]))]) rfl rfl rfl rfl ?_
  refine g_aload_n (pc := 56) X 0 rfl dX11_feed_56 ?_
  refine g_get (pc := 57) X inlX11 0 rfl rfl 0 (by decide) mw_1_15 rfl dX11_feed_57 ?_
  refine g_get (pc := 60) X inlX9 2 rfl rfl 1 (by decide) mw_10_3 rfl dX11_feed_60 ?_
  exact g_iret (pc := 63) X hA (rfl) (by decide) (by decide) dX11_feed_63

set_option maxHeartbeats 4000000 in
set_option maxRecDepth 100000 in
theorem c_shorten (l : Launch) (Z : gZ) (t0 : Nat) (t_bytes : Nat) (t_kinds : Nat) (t_places : Nat) (t_values : Nat) (x1 : Int32) : Con l Z yX9_shorten cX9_shorten 2 (some .boolean) 1 22 0 0 [.ref t0, .int x1] [(t0, .inr (9, [.ref t_bytes, .int 0, .int 0, .ref t_kinds, .ref t_places, .ref t_values]))] (fun r w' => r = some (.int (isF 0 x1 0))) := by
  refine enter (by decide) (Nat.le_of_ble_eq_true rfl) ?_
  intro p e s m args below meth c A X hnm hA
  have X : Cx p s m args meth c cX9_shorten 2 (some .boolean) RX9 Z A := X
  refine g_as (pc' := 0) (lv' := [(0, .ref t0), (1, .int x1)]) (st' := []) (ws' := [(t0, .inr (9, [.ref t_bytes, .int 0, .int 0, .ref t_kinds, .ref t_places, .ref t_values]))]) rfl rfl rfl rfl ?_
  refine g_iconst (pc := 0) X 0 (by decide) dX9_shorten_0 ?_
  refine g_iload_n (pc := 1) X 1 rfl dX9_shorten_1 ?_
  refine g_aload_n (pc := 2) X 0 rfl dX9_shorten_2 ?_
  refine g_get (pc := 3) X inlX9 0 rfl rfl 1 (by decide) mw_10_8 rfl dX9_shorten_3 ?_
  refine g_callSN (pc := 6) X (c_isFrom l Z 0 x1 0) iM_X11_isFrom (by decide) mw_11_7 [] [0] rfl (wr := [(t0, .inr (9, [.ref t_bytes, .int 0, .int 0, .ref t_kinds, .ref t_places, .ref t_values]))]) rfl (by decide) rfl rfl (Nat.le_of_ble_eq_true rfl) (by decide) dX9_shorten_6 (fun r w' hpo => ?_)
  obtain ⟨rfl, rfl⟩ := hpo
  refine g_as (pc' := 9) (lv' := [(0, .ref t0), (1, .int x1)]) (st' := [.int (isF 0 x1 0)]) (ws' := [(t0, .inr (9, [.ref t_bytes, .int 0, .int 0, .ref t_kinds, .ref t_places, .ref t_values]))]) rfl rfl rfl rfl ?_
  refine g_if_ne (pc := 9) X 14 (by decide) dX9_shorten_9 (fun b9 => ?_) (fun b9 => ?_)
  · refine g_aload_n (pc := 14) X 0 rfl dX9_shorten_14 ?_
    refine g_iload_n (pc := 15) X 1 rfl dX9_shorten_15 ?_
    refine g_put (pc := 16) X inlX9 tyX9_ok nmX9 0 rfl rfl 1 (by decide) mw_10_8 rfl rfl rfl (Nat.le_of_ble_eq_true rfl) (ws' := [(t0, .inr (9, [.ref t_bytes, .int x1, .int 0, .ref t_kinds, .ref t_places, .ref t_values]))]) rfl dX9_shorten_16 ?_
    refine g_iconst (pc := 19) X 1 (by decide) dX9_shorten_19 ?_
    exact g_zret (pc := 20) X hA (rfl) (by rw [isF_one b9]) (by decide) (by decide) dX9_shorten_20
  · refine g_iconst (pc := 12) X 0 (by decide) dX9_shorten_12 ?_
    exact g_zret (pc := 13) X hA (rfl) (by rw [b9]) (by decide) (by decide) dX9_shorten_13

set_option maxHeartbeats 4000000 in
set_option maxRecDepth 100000 in
theorem c_end (l : Launch) (Z : gZ) (h0 : Nat) (a1 : Nat) (a2 : Nat) (a3 : Nat) (a4 : Nat) (a5 : Nat) (a6 : Nat) (a7 : Nat) (a8 : Nat) (a9 : Nat) (a10 : Nat) (a11 : Nat) (a12 : Nat) (t_bytes : Nat) (t_kinds : Nat) (t_places : Nat) (t_values : Nat) (x1 : Int32) : Con l Z yX11_end cX11_end 2 (some .boolean) 2 43 0 0 [.ref h0, .int x1] [(h0, .inr (11, [.ref a1, .ref a2, .ref a3, .ref a4, .ref a5, .ref a6, .ref a7, .ref a8, .ref a9, .ref a10, .ref a11, .ref a12, .int 0, .int 0, .int 5])), (a1, .inr (9, [.ref t_bytes, .int 0, .int 0, .ref t_kinds, .ref t_places, .ref t_values]))] (fun r w' => r = some (.int (isF 0 x1 0))) := by
  refine enter (by decide) (Nat.le_of_ble_eq_true rfl) ?_
  intro p e s m args below meth c A X hnm hA
  have X : Cx p s m args meth c cX11_end 2 (some .boolean) RX11 Z A := X
  refine g_as (pc' := 0) (lv' := [(0, .ref h0), (1, .int x1)]) (st' := []) (ws' := [(h0, .inr (11, [.ref a1, .ref a2, .ref a3, .ref a4, .ref a5, .ref a6, .ref a7, .ref a8, .ref a9, .ref a10, .ref a11, .ref a12, .int 0, .int 0, .int 5])), (a1, .inr (9, [.ref t_bytes, .int 0, .int 0, .ref t_kinds, .ref t_places, .ref t_values]))]) rfl rfl rfl rfl ?_
  refine g_aload_n (pc := 0) X 0 rfl dX11_end_0 ?_
  refine g_get (pc := 1) X inlX11 0 rfl rfl 0 (by decide) mw_1_15 rfl dX11_end_1 ?_
  refine g_iload_n (pc := 4) X 1 rfl dX11_end_4 ?_
  refine g_callV (pc := 5) X (c_shorten l Z a1 t_bytes t_kinds t_places t_values x1) iM_X9_shorten mw_11_3 mw_11_4 mw_11_5 1 rfl rfl [1] [0] rfl (wr := [(h0, .inr (11, [.ref a1, .ref a2, .ref a3, .ref a4, .ref a5, .ref a6, .ref a7, .ref a8, .ref a9, .ref a10, .ref a11, .ref a12, .int 0, .int 0, .int 5]))]) rfl (by decide) rfl rfl (Nat.le_of_ble_eq_true rfl) (by decide) dX11_end_5 (fun r w' hpo => ?_)
  obtain rfl := hpo
  refine g_left ?_
  refine g_as (pc' := 8) (lv' := [(0, .ref h0), (1, .int x1)]) (st' := [.int (isF 0 x1 0)]) (ws' := [(h0, .inr (11, [.ref a1, .ref a2, .ref a3, .ref a4, .ref a5, .ref a6, .ref a7, .ref a8, .ref a9, .ref a10, .ref a11, .ref a12, .int 0, .int 0, .int 5]))]) rfl rfl rfl rfl ?_
  exact g_zret (pc := 8) X hA (isF_nar _ _ _) (rfl) (by decide) (by decide) dX11_end_8

set_option maxHeartbeats 4000000 in
set_option maxRecDepth 100000 in
theorem c_trim (l : Launch) (Z : gZ) (h0 : Nat) (a1 : Nat) (a2 : Nat) (a3 : Nat) (a4 : Nat) (a5 : Nat) (a6 : Nat) (a7 : Nat) (a8 : Nat) (a9 : Nat) (a10 : Nat) (a11 : Nat) (a12 : Nat) (x1 : Int32) : Con l Z yX11_trim cX11_trim 2 (some .boolean) 1 22 0 0 [.ref h0, .int x1] [(h0, .inr (11, [.ref a1, .ref a2, .ref a3, .ref a4, .ref a5, .ref a6, .ref a7, .ref a8, .ref a9, .ref a10, .ref a11, .ref a12, .int 0, .int 0, .int 5]))] (fun r w' => r = some (.int (isF 0 x1 20))) := by
  refine enter (by decide) (Nat.le_of_ble_eq_true rfl) ?_
  intro p e s m args below meth c A X hnm hA
  have X : Cx p s m args meth c cX11_trim 2 (some .boolean) RX11 Z A := X
  refine g_as (pc' := 0) (lv' := [(0, .ref h0), (1, .int x1)]) (st' := []) (ws' := [(h0, .inr (11, [.ref a1, .ref a2, .ref a3, .ref a4, .ref a5, .ref a6, .ref a7, .ref a8, .ref a9, .ref a10, .ref a11, .ref a12, .int 0, .int 0, .int 5]))]) rfl rfl rfl rfl ?_
  refine g_iconst (pc := 0) X 0 (by decide) dX11_trim_0 ?_
  refine g_iload_n (pc := 1) X 1 rfl dX11_trim_1 ?_
  refine g_bipush (pc := 2) X 20 (by decide) dX11_trim_2 ?_
  refine g_callS (pc := 4) X (c_isFrom l Z 0 x1 20) iM_X11_isFrom mw_23_8 mw_11_7 [] [0] rfl (wr := [(h0, .inr (11, [.ref a1, .ref a2, .ref a3, .ref a4, .ref a5, .ref a6, .ref a7, .ref a8, .ref a9, .ref a10, .ref a11, .ref a12, .int 0, .int 0, .int 5]))]) rfl (by decide) rfl rfl (Nat.le_of_ble_eq_true rfl) (by decide) dX11_trim_4 (fun r w' hpo => ?_)
  obtain ⟨rfl, rfl⟩ := hpo
  refine g_as (pc' := 7) (lv' := [(0, .ref h0), (1, .int x1)]) (st' := [.int (isF 0 x1 20)]) (ws' := [(h0, .inr (11, [.ref a1, .ref a2, .ref a3, .ref a4, .ref a5, .ref a6, .ref a7, .ref a8, .ref a9, .ref a10, .ref a11, .ref a12, .int 0, .int 0, .int 5]))]) rfl rfl rfl rfl ?_
  refine g_if_ne (pc := 7) X 12 (by decide) dX11_trim_7 (fun b7 => ?_) (fun b7 => ?_)
  · refine g_aload_n (pc := 12) X 0 rfl dX11_trim_12 ?_
    refine g_iload_n (pc := 13) X 1 rfl dX11_trim_13 ?_
    refine g_put (pc := 14) X inlX11 tyX11_ok nmX11 0 rfl rfl 14 (by decide) mw_3_6 rfl rfl rfl (Nat.le_of_ble_eq_true rfl) (ws' := [(h0, .inr (11, [.ref a1, .ref a2, .ref a3, .ref a4, .ref a5, .ref a6, .ref a7, .ref a8, .ref a9, .ref a10, .ref a11, .ref a12, .int 0, .int 0, .int x1]))]) rfl dX11_trim_14 ?_
    refine g_iconst (pc := 17) X 1 (by decide) dX11_trim_17 ?_
    exact g_zret (pc := 18) X hA (rfl) (by rw [isF_one b7]) (by decide) (by decide) dX11_trim_18
  · refine g_iconst (pc := 10) X 0 (by decide) dX11_trim_10 ?_
    exact g_zret (pc := 11) X hA (rfl) (by rw [b7]) (by decide) (by decide) dX11_trim_11
