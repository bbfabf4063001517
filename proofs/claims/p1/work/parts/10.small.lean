set_option maxHeartbeats 4000000 in
set_option maxRecDepth 100000 in
theorem c_isFrom (l : Launch) (Z : gZ) (a : Int32) (v : Int32) (b : Int32) : Con l Z yX11_isFrom cX11_isFrom 3 (some .boolean) 0 0 0 0 [.int a, .int v, .int b] [] (fun r w' => r = some (.int (isF a v b)) ∧ w' = []) := by
  refine enter (by decide) (Nat.le_of_ble_eq_true rfl) ?_
  intro p e s m args below meth c A X hnm hA
  have X : Cx p s m args meth c cX11_isFrom 3 (some .boolean) RX11 Z A := X
  refine g_as (pc' := 0) (lv' := [(0, .int a), (1, .int v), (2, .int b)]) (st' := []) (ws' := []) rfl rfl rfl rfl ?_
  refine g_iload_n (pc := 0) X 1 rfl dX11_isFrom_0 ?_
  refine g_iload_n (pc := 1) X 0 rfl dX11_isFrom_1 ?_
  refine g_icmp_lt (pc := 2) X 14 (by decide) dX11_isFrom_2 (fun b2 => ?_) (fun b2 => ?_)
  · refine g_iconst (pc := 14) X 0 (by decide) dX11_isFrom_14 ?_
    exact g_zret (pc := 15) X hA (rfl) (⟨congrArg (fun z => some (Value.int z)) (isF_n1 b2), rfl⟩) (by decide) (by decide) dX11_isFrom_15
  · refine g_iload_n (pc := 5) X 1 rfl dX11_isFrom_5 ?_
    refine g_iload_n (pc := 6) X 2 rfl dX11_isFrom_6 ?_
    refine g_icmp_gt (pc := 7) X 14 (by decide) dX11_isFrom_7 (fun b7 => ?_) (fun b7 => ?_)
    · refine g_iconst (pc := 14) X 0 (by decide) dX11_isFrom_14 ?_
      exact g_zret (pc := 15) X hA (rfl) (⟨congrArg (fun z => some (Value.int z)) (isF_n2 b7), rfl⟩) (by decide) (by decide) dX11_isFrom_15
    · refine g_iconst (pc := 10) X 1 (by decide) dX11_isFrom_10 ?_
      refine g_goto (pc := 11) X 15 (by decide) dX11_isFrom_11 ?_
      exact g_zret (pc := 15) X hA (rfl) (⟨congrArg (fun z => some (Value.int z)) (isF_y b2 b7), rfl⟩) (by decide) (by decide) dX11_isFrom_15

set_option maxHeartbeats 4000000 in
set_option maxRecDepth 100000 in
theorem c_roomAt (l : Launch) (Z : gZ) (h0 : Nat) (a1 : Nat) (a2 : Nat) (a3 : Nat) (a4 : Nat) (a5 : Nat) (a6 : Nat) (a7 : Nat) (a8 : Nat) (a9 : Nat) (a10 : Nat) (a11 : Nat) (a12 : Nat) (x1 : Int32) : Con l Z yX11_roomAt cX11_roomAt 2 (some (.object "HalfDrop$Room")) 1 22 0 0 [.ref h0, .int x1] [(h0, .inr (11, [.ref a1, .ref a2, .ref a3, .ref a4, .ref a5, .ref a6, .ref a7, .ref a8, .ref a9, .ref a10, .ref a11, .ref a12, .int 0, .int 0, .int 5]))] (fun r w' => r = some (.null) ∧ w' = [(h0, .inr (11, [.ref a1, .ref a2, .ref a3, .ref a4, .ref a5, .ref a6, .ref a7, .ref a8, .ref a9, .ref a10, .ref a11, .ref a12, .int 0, .int 0, .int 5]))]) := by
  refine enter (by decide) (Nat.le_of_ble_eq_true rfl) ?_
  intro p e s m args below meth c A X hnm hA
  have X : Cx p s m args meth c cX11_roomAt 2 (some (.object "HalfDrop$Room")) RX11 Z A := X
  refine g_as (pc' := 0) (lv' := [(0, .ref h0), (1, .int x1)]) (st' := []) (ws' := [(h0, .inr (11, [.ref a1, .ref a2, .ref a3, .ref a4, .ref a5, .ref a6, .ref a7, .ref a8, .ref a9, .ref a10, .ref a11, .ref a12, .int 0, .int 0, .int 5]))]) rfl rfl rfl rfl ?_
  refine g_iconst (pc := 0) X 0 (by decide) dX11_roomAt_0 ?_
  refine g_iload_n (pc := 1) X 1 rfl dX11_roomAt_1 ?_
  refine g_aload_n (pc := 2) X 0 rfl dX11_roomAt_2 ?_
  refine g_get (pc := 3) X inlX11 0 rfl rfl 12 (by decide) mw_3_4 rfl dX11_roomAt_3 ?_
  refine g_iconst (pc := 6) X 1 (by decide) dX11_roomAt_6 ?_
  refine g_isub (pc := 7) X dX11_roomAt_7 ?_
  refine g_lit (y := (-1)) (by decide) ?_
  refine g_callS (pc := 8) X (c_isFrom l Z 0 x1 (-1)) iM_X11_isFrom mw_23_8 mw_11_7 [] [0] rfl (wr := [(h0, .inr (11, [.ref a1, .ref a2, .ref a3, .ref a4, .ref a5, .ref a6, .ref a7, .ref a8, .ref a9, .ref a10, .ref a11, .ref a12, .int 0, .int 0, .int 5]))]) rfl (by decide) rfl rfl (Nat.le_of_ble_eq_true rfl) (by decide) dX11_roomAt_8 (fun r w' hpo => ?_)
  obtain ⟨rfl, rfl⟩ := hpo
  refine g_as (pc' := 11) (lv' := [(0, .ref h0), (1, .int x1)]) (st' := [.int (isF 0 x1 (-1))]) (ws' := [(h0, .inr (11, [.ref a1, .ref a2, .ref a3, .ref a4, .ref a5, .ref a6, .ref a7, .ref a8, .ref a9, .ref a10, .ref a11, .ref a12, .int 0, .int 0, .int 5]))]) rfl rfl rfl rfl ?_
  refine g_if_eq (pc := 11) X 23 (by decide) dX11_roomAt_11 (fun b11 => ?_) (fun h => absurd (isF_e _) h)
  refine g_null (pc := 23) X dX11_roomAt_23 ?_
  exact g_aret (pc := 24) X (Or.inl ⟨_, rfl⟩) hA (Or.inl rfl) (⟨rfl, rfl⟩) (by decide) (by decide) dX11_roomAt_24

set_option maxHeartbeats 4000000 in
set_option maxRecDepth 100000 in
theorem c_paperAt (l : Launch) (Z : gZ) (h0 : Nat) (a1 : Nat) (a2 : Nat) (a3 : Nat) (a4 : Nat) (a5 : Nat) (a6 : Nat) (a7 : Nat) (a8 : Nat) (a9 : Nat) (a10 : Nat) (a11 : Nat) (a12 : Nat) (x1 : Int32) : Con l Z yX11_paperAt cX11_paperAt 2 (some (.object "HalfDrop$Paper")) 1 22 0 0 [.ref h0, .int x1] [(h0, .inr (11, [.ref a1, .ref a2, .ref a3, .ref a4, .ref a5, .ref a6, .ref a7, .ref a8, .ref a9, .ref a10, .ref a11, .ref a12, .int 0, .int 0, .int 5]))] (fun r w' => r = some (.null) ∧ w' = [(h0, .inr (11, [.ref a1, .ref a2, .ref a3, .ref a4, .ref a5, .ref a6, .ref a7, .ref a8, .ref a9, .ref a10, .ref a11, .ref a12, .int 0, .int 0, .int 5]))]) := by
  refine enter (by decide) (Nat.le_of_ble_eq_true rfl) ?_
  intro p e s m args below meth c A X hnm hA
  have X : Cx p s m args meth c cX11_paperAt 2 (some (.object "HalfDrop$Paper")) RX11 Z A := X
  refine g_as (pc' := 0) (lv' := [(0, .ref h0), (1, .int x1)]) (st' := []) (ws' := [(h0, .inr (11, [.ref a1, .ref a2, .ref a3, .ref a4, .ref a5, .ref a6, .ref a7, .ref a8, .ref a9, .ref a10, .ref a11, .ref a12, .int 0, .int 0, .int 5]))]) rfl rfl rfl rfl ?_
  refine g_iconst (pc := 0) X 0 (by decide) dX11_paperAt_0 ?_
  refine g_iload_n (pc := 1) X 1 rfl dX11_paperAt_1 ?_
  refine g_aload_n (pc := 2) X 0 rfl dX11_paperAt_2 ?_
  refine g_get (pc := 3) X inlX11 0 rfl rfl 13 (by decide) mw_3_5 rfl dX11_paperAt_3 ?_
  refine g_iconst (pc := 6) X 1 (by decide) dX11_paperAt_6 ?_
  refine g_isub (pc := 7) X dX11_paperAt_7 ?_
  refine g_lit (y := (-1)) (by decide) ?_
  refine g_callS (pc := 8) X (c_isFrom l Z 0 x1 (-1)) iM_X11_isFrom mw_23_8 mw_11_7 [] [0] rfl (wr := [(h0, .inr (11, [.ref a1, .ref a2, .ref a3, .ref a4, .ref a5, .ref a6, .ref a7, .ref a8, .ref a9, .ref a10, .ref a11, .ref a12, .int 0, .int 0, .int 5]))]) rfl (by decide) rfl rfl (Nat.le_of_ble_eq_true rfl) (by decide) dX11_paperAt_8 (fun r w' hpo => ?_)
  obtain ⟨rfl, rfl⟩ := hpo
  refine g_as (pc' := 11) (lv' := [(0, .ref h0), (1, .int x1)]) (st' := [.int (isF 0 x1 (-1))]) (ws' := [(h0, .inr (11, [.ref a1, .ref a2, .ref a3, .ref a4, .ref a5, .ref a6, .ref a7, .ref a8, .ref a9, .ref a10, .ref a11, .ref a12, .int 0, .int 0, .int 5]))]) rfl rfl rfl rfl ?_
  refine g_if_eq (pc := 11) X 23 (by decide) dX11_paperAt_11 (fun b11 => ?_) (fun h => absurd (isF_e _) h)
  refine g_null (pc := 23) X dX11_paperAt_23 ?_
  exact g_aret (pc := 24) X (Or.inl ⟨_, rfl⟩) hA (Or.inl rfl) (⟨rfl, rfl⟩) (by decide) (by decide) dX11_paperAt_24

set_option maxHeartbeats 4000000 in
set_option maxRecDepth 100000 in
theorem c_lay0 (l : Launch) (Z : gZ) (h0 : Nat) (a1 : Nat) (a2 : Nat) (a3 : Nat) (a4 : Nat) (a5 : Nat) (a6 : Nat) (a7 : Nat) (a8 : Nat) (a9 : Nat) (a10 : Nat) (a11 : Nat) (a12 : Nat) (x1 : Int32) : Con l Z yX11_lay cX11_lay 4 (some .boolean) 2 43 0 0 [.ref h0, .int x1] [(h0, .inr (11, [.ref a1, .ref a2, .ref a3, .ref a4, .ref a5, .ref a6, .ref a7, .ref a8, .ref a9, .ref a10, .ref a11, .ref a12, .int 0, .int 0, .int 5]))] (fun r w' => r = some (.int 0) ∧ w' = [(h0, .inr (11, [.ref a1, .ref a2, .ref a3, .ref a4, .ref a5, .ref a6, .ref a7, .ref a8, .ref a9, .ref a10, .ref a11, .ref a12, .int 0, .int 0, .int 5]))]) := by
  refine enter (by decide) (Nat.le_of_ble_eq_true rfl) ?_
  intro p e s m args below meth c A X hnm hA
  have X : Cx p s m args meth c cX11_lay 4 (some .boolean) RX11 Z A := X
  refine g_as (pc' := 0) (lv' := [(0, .ref h0), (1, .int x1)]) (st' := []) (ws' := [(h0, .inr (11, [.ref a1, .ref a2, .ref a3, .ref a4, .ref a5, .ref a6, .ref a7, .ref a8, .ref a9, .ref a10, .ref a11, .ref a12, .int 0, .int 0, .int 5]))]) rfl rfl rfl rfl ?_
  refine g_aload_n (pc := 0) X 0 rfl dX11_lay_0 ?_
  refine g_iload_n (pc := 1) X 1 rfl dX11_lay_1 ?_
  refine g_callV (pc := 2) X (c_roomAt l Z h0 a1 a2 a3 a4 a5 a6 a7 a8 a9 a10 a11 a12 x1) iM_X11_roomAt mw_23_4 mw_23_5 mw_23_6 0 rfl rfl [0] [] rfl (wr := []) rfl (by decide) rfl rfl (Nat.le_of_ble_eq_true rfl) (by decide) dX11_lay_2 (fun r w' hpo => ?_)
  obtain ⟨rfl, rfl⟩ := hpo
  refine g_as (pc' := 5) (lv' := [(0, .ref h0), (1, .int x1)]) (st' := [.null]) (ws' := [(h0, .inr (11, [.ref a1, .ref a2, .ref a3, .ref a4, .ref a5, .ref a6, .ref a7, .ref a8, .ref a9, .ref a10, .ref a11, .ref a12, .int 0, .int 0, .int 5]))]) rfl rfl rfl rfl ?_
  refine g_astore_nN (pc := 5) X (i := 2) rfl (by decide) (lv' := [(2, .null), (0, .ref h0), (1, .int x1)]) rfl dX11_lay_5 ?_
  refine g_aload_nN (pc := 6) X 0 rfl dX11_lay_6 ?_
  refine g_ifnonnullN (pc := 7) X dX11_lay_7 ?_
  refine g_iconst (pc := 10) X 0 (by decide) dX11_lay_10 ?_
  exact g_zret (pc := 11) X hA (rfl) (⟨rfl, rfl⟩) (by decide) (by decide) dX11_lay_11
