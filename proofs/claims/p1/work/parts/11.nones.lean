set_option maxHeartbeats 4000000 in
set_option maxRecDepth 100000 in
theorem c_of (l : Launch) (Z : gZ) (h0 : Nat) (a1 : Nat) (a2 : Nat) (a3 : Nat) (a4 : Nat) (a5 : Nat) (a6 : Nat) (a7 : Nat) (a8 : Nat) (a9 : Nat) (a10 : Nat) (a11 : Nat) (a12 : Nat) (x1 : Int32) (x2 : Int32) : Con l Z yX11_of cX11_of 4 (some .int) 2 43 0 0 [.ref h0, .int x1, .int x2] [(h0, .inr (11, [.ref a1, .ref a2, .ref a3, .ref a4, .ref a5, .ref a6, .ref a7, .ref a8, .ref a9, .ref a10, .ref a11, .ref a12, .int 0, .int 0, .int 5]))] (fun r w' => r = some (.int (-1))) := by
  refine enter (by decide) (Nat.le_of_ble_eq_true rfl) ?_
  intro p e s m args below meth c A X hnm hA
  have X : Cx p s m args meth c cX11_of 4 (some .int) RX11 Z A := X
  refine g_as (pc' := 0) (lv' := [(0, .ref h0), (1, .int x1), (2, .int x2)]) (st' := []) (ws' := [(h0, .inr (11, [.ref a1, .ref a2, .ref a3, .ref a4, .ref a5, .ref a6, .ref a7, .ref a8, .ref a9, .ref a10, .ref a11, .ref a12, .int 0, .int 0, .int 5]))]) rfl rfl rfl rfl ?_
  refine g_aload_n (pc := 0) X 0 rfl dX11_of_0 ?_
  refine g_iload_n (pc := 1) X 1 rfl dX11_of_1 ?_
  refine g_callV (pc := 2) X (c_roomAt l Z h0 a1 a2 a3 a4 a5 a6 a7 a8 a9 a10 a11 a12 x1) iM_X11_roomAt mw_23_4 mw_23_5 mw_23_6 0 rfl rfl [0] [] rfl (wr := []) rfl (by decide) rfl rfl (Nat.le_of_ble_eq_true rfl) (by decide) dX11_of_2 (fun r w' hpo => ?_)
  obtain ⟨rfl, rfl⟩ := hpo
  refine g_as (pc' := 5) (lv' := [(0, .ref h0), (1, .int x1), (2, .int x2)]) (st' := [.null]) (ws' := [(h0, .inr (11, [.ref a1, .ref a2, .ref a3, .ref a4, .ref a5, .ref a6, .ref a7, .ref a8, .ref a9, .ref a10, .ref a11, .ref a12, .int 0, .int 0, .int 5]))]) rfl rfl rfl rfl ?_
  refine g_astore_nN (pc := 5) X (i := 3) rfl (by decide) (lv' := [(3, .null), (0, .ref h0), (1, .int x1), (2, .int x2)]) rfl dX11_of_5 ?_
  refine g_aload_nN (pc := 6) X 0 rfl dX11_of_6 ?_
  refine g_ifnullN (pc := 7) X 23 (by decide) dX11_of_7 ?_
  refine g_iconst (pc := 23) X (-1) (by decide) dX11_of_23 ?_
  exact g_iret (pc := 24) X hA (rfl) (by decide) (by decide) dX11_of_24

set_option maxHeartbeats 4000000 in
set_option maxRecDepth 100000 in
theorem c_height (l : Launch) (Z : gZ) (h0 : Nat) (a1 : Nat) (a2 : Nat) (a3 : Nat) (a4 : Nat) (a5 : Nat) (a6 : Nat) (a7 : Nat) (a8 : Nat) (a9 : Nat) (a10 : Nat) (a11 : Nat) (a12 : Nat) (x1 : Int32) (x2 : Int32) : Con l Z yX11_height cX11_height 4 (some .int) 2 43 0 0 [.ref h0, .int x1, .int x2] [(h0, .inr (11, [.ref a1, .ref a2, .ref a3, .ref a4, .ref a5, .ref a6, .ref a7, .ref a8, .ref a9, .ref a10, .ref a11, .ref a12, .int 0, .int 0, .int 5]))] (fun r w' => r = some (.int (-1))) := by
  refine enter (by decide) (Nat.le_of_ble_eq_true rfl) ?_
  intro p e s m args below meth c A X hnm hA
  have X : Cx p s m args meth c cX11_height 4 (some .int) RX11 Z A := X
  refine g_as (pc' := 0) (lv' := [(0, .ref h0), (1, .int x1), (2, .int x2)]) (st' := []) (ws' := [(h0, .inr (11, [.ref a1, .ref a2, .ref a3, .ref a4, .ref a5, .ref a6, .ref a7, .ref a8, .ref a9, .ref a10, .ref a11, .ref a12, .int 0, .int 0, .int 5]))]) rfl rfl rfl rfl ?_
  refine g_aload_n (pc := 0) X 0 rfl dX11_height_0 ?_
  refine g_iload_n (pc := 1) X 1 rfl dX11_height_1 ?_
  refine g_callV (pc := 2) X (c_roomAt l Z h0 a1 a2 a3 a4 a5 a6 a7 a8 a9 a10 a11 a12 x1) iM_X11_roomAt mw_23_4 mw_23_5 mw_23_6 0 rfl rfl [0] [] rfl (wr := []) rfl (by decide) rfl rfl (Nat.le_of_ble_eq_true rfl) (by decide) dX11_height_2 (fun r w' hpo => ?_)
  obtain ⟨rfl, rfl⟩ := hpo
  refine g_as (pc' := 5) (lv' := [(0, .ref h0), (1, .int x1), (2, .int x2)]) (st' := [.null]) (ws' := [(h0, .inr (11, [.ref a1, .ref a2, .ref a3, .ref a4, .ref a5, .ref a6, .ref a7, .ref a8, .ref a9, .ref a10, .ref a11, .ref a12, .int 0, .int 0, .int 5]))]) rfl rfl rfl rfl ?_
  refine g_astore_nN (pc := 5) X (i := 3) rfl (by decide) (lv' := [(3, .null), (0, .ref h0), (1, .int x1), (2, .int x2)]) rfl dX11_height_5 ?_
  refine g_aload_nN (pc := 6) X 0 rfl dX11_height_6 ?_
  refine g_ifnullN (pc := 7) X 27 (by decide) dX11_height_7 ?_
  refine g_iconst (pc := 27) X (-1) (by decide) dX11_height_27 ?_
  exact g_iret (pc := 28) X hA (rfl) (by decide) (by decide) dX11_height_28

set_option maxHeartbeats 4000000 in
set_option maxRecDepth 100000 in
theorem c_done (l : Launch) (Z : gZ) (h0 : Nat) (a1 : Nat) (a2 : Nat) (a3 : Nat) (a4 : Nat) (a5 : Nat) (a6 : Nat) (a7 : Nat) (a8 : Nat) (a9 : Nat) (a10 : Nat) (a11 : Nat) (a12 : Nat) (x1 : Int32) (x2 : Int32) (x3 : Int32) (x4 : Int32) : Con l Z yX11_done cX11_done 7 (some .int) 2 43 0 0 [.ref h0, .int x1, .int x2, .int x3, .int x4] [(h0, .inr (11, [.ref a1, .ref a2, .ref a3, .ref a4, .ref a5, .ref a6, .ref a7, .ref a8, .ref a9, .ref a10, .ref a11, .ref a12, .int 0, .int 0, .int 5]))] (fun r w' => r = some (.int (-1))) := by
  refine enter (by decide) (Nat.le_of_ble_eq_true rfl) ?_
  intro p e s m args below meth c A X hnm hA
  have X : Cx p s m args meth c cX11_done 7 (some .int) RX11 Z A := X
  refine g_as (pc' := 0) (lv' := [(0, .ref h0), (1, .int x1), (2, .int x2), (3, .int x3), (4, .int x4)]) (st' := []) (ws' := [(h0, .inr (11, [.ref a1, .ref a2, .ref a3, .ref a4, .ref a5, .ref a6, .ref a7, .ref a8, .ref a9, .ref a10, .ref a11, .ref a12, .int 0, .int 0, .int 5]))]) rfl rfl rfl rfl ?_
  refine g_aload_n (pc := 0) X 0 rfl dX11_done_0 ?_
  refine g_iload_n (pc := 1) X 1 rfl dX11_done_1 ?_
  refine g_callV (pc := 2) X (c_roomAt l Z h0 a1 a2 a3 a4 a5 a6 a7 a8 a9 a10 a11 a12 x1) iM_X11_roomAt mw_23_4 mw_23_5 mw_23_6 0 rfl rfl [0] [] rfl (wr := []) rfl (by decide) rfl rfl (Nat.le_of_ble_eq_true rfl) (by decide) dX11_done_2 (fun r w' hpo => ?_)
  obtain ⟨rfl, rfl⟩ := hpo
  refine g_as (pc' := 5) (lv' := [(0, .ref h0), (1, .int x1), (2, .int x2), (3, .int x3), (4, .int x4)]) (st' := [.null]) (ws' := [(h0, .inr (11, [.ref a1, .ref a2, .ref a3, .ref a4, .ref a5, .ref a6, .ref a7, .ref a8, .ref a9, .ref a10, .ref a11, .ref a12, .int 0, .int 0, .int 5]))]) rfl rfl rfl rfl ?_
  refine g_astoreN (pc := 5) X (by decide) (lv' := [(5, .null), (0, .ref h0), (1, .int x1), (2, .int x2), (3, .int x3), (4, .int x4)]) rfl dX11_done_5 ?_
  refine g_aload_n (pc := 7) X 1 rfl dX11_done_7 ?_
  refine g_iload_n (pc := 8) X 3 rfl dX11_done_8 ?_
  refine g_callV (pc := 9) X (c_paperAt l Z h0 a1 a2 a3 a4 a5 a6 a7 a8 a9 a10 a11 a12 x2) iM_X11_paperAt mw_23_15 mw_23_16 mw_23_17 0 rfl rfl [0] [] rfl (wr := []) rfl (by decide) rfl rfl (Nat.le_of_ble_eq_true rfl) (by decide) dX11_done_9 (fun r w' hpo => ?_)
  obtain ⟨rfl, rfl⟩ := hpo
  refine g_as (pc' := 12) (lv' := [(5, .null), (0, .ref h0), (1, .int x1), (2, .int x2), (3, .int x3), (4, .int x4)]) (st' := [.null]) (ws' := [(h0, .inr (11, [.ref a1, .ref a2, .ref a3, .ref a4, .ref a5, .ref a6, .ref a7, .ref a8, .ref a9, .ref a10, .ref a11, .ref a12, .int 0, .int 0, .int 5]))]) rfl rfl rfl rfl ?_
  refine g_astoreN (pc := 12) X (by decide) (lv' := [(6, .null), (5, .null), (0, .ref h0), (1, .int x1), (2, .int x2), (3, .int x3), (4, .int x4)]) rfl dX11_done_12 ?_
  refine g_aloadN (pc := 14) X 1 rfl dX11_done_14 ?_
  refine g_ifnullN (pc := 16) X 24 (by decide) dX11_done_16 ?_
  refine g_iconst (pc := 24) X (-1) (by decide) dX11_done_24 ?_
  exact g_iret (pc := 25) X hA (rfl) (by decide) (by decide) dX11_done_25

set_option maxHeartbeats 4000000 in
set_option maxRecDepth 100000 in
theorem c_strip (l : Launch) (Z : gZ) (h0 : Nat) (a1 : Nat) (a2 : Nat) (a3 : Nat) (a4 : Nat) (a5 : Nat) (a6 : Nat) (a7 : Nat) (a8 : Nat) (a9 : Nat) (a10 : Nat) (a11 : Nat) (a12 : Nat) (x1 : Int32) (x2 : Int32) (x3 : Int32) : Con l Z yX11_strip cX11_strip 4 (some .int) 3 66 0 0 [.ref h0, .int x1, .int x2, .int x3] [(h0, .inr (11, [.ref a1, .ref a2, .ref a3, .ref a4, .ref a5, .ref a6, .ref a7, .ref a8, .ref a9, .ref a10, .ref a11, .ref a12, .int 0, .int 0, .int 5]))] (fun r w' => r = some (.int (-1))) := by
  refine enter (by decide) (Nat.le_of_ble_eq_true rfl) ?_
  intro p e s m args below meth c A X hnm hA
  have X : Cx p s m args meth c cX11_strip 4 (some .int) RX11 Z A := X
  refine g_as (pc' := 0) (lv' := [(0, .ref h0), (1, .int x1), (2, .int x2), (3, .int x3)]) (st' := []) (ws' := [(h0, .inr (11, [.ref a1, .ref a2, .ref a3, .ref a4, .ref a5, .ref a6, .ref a7, .ref a8, .ref a9, .ref a10, .ref a11, .ref a12, .int 0, .int 0, .int 5]))]) rfl rfl rfl rfl ?_
  refine g_aload_n (pc := 0) X 0 rfl dX11_strip_0 ?_
  refine g_iload_n (pc := 1) X 1 rfl dX11_strip_1 ?_
  refine g_callV (pc := 2) X (c_lay0 l Z h0 a1 a2 a3 a4 a5 a6 a7 a8 a9 a10 a11 a12 x1) iM_X11_lay mw_23_9 mw_23_10 mw_23_11 0 rfl rfl [0] [] rfl (wr := []) rfl (by decide) rfl rfl (Nat.le_of_ble_eq_true rfl) (by decide) dX11_strip_2 (fun r w' hpo => ?_)
  obtain ⟨rfl, rfl⟩ := hpo
  refine g_as (pc' := 5) (lv' := [(0, .ref h0), (1, .int x1), (2, .int x2), (3, .int x3)]) (st' := [.int 0]) (ws' := [(h0, .inr (11, [.ref a1, .ref a2, .ref a3, .ref a4, .ref a5, .ref a6, .ref a7, .ref a8, .ref a9, .ref a10, .ref a11, .ref a12, .int 0, .int 0, .int 5]))]) rfl rfl rfl rfl ?_
  refine g_if_eq (pc := 5) X 25 (by decide) dX11_strip_5 (fun b5 => ?_) (fun h => absurd (by decide) h)
  refine g_iconst (pc := 25) X (-1) (by decide) dX11_strip_25 ?_
  exact g_iret (pc := 26) X hA (rfl) (by decide) (by decide) dX11_strip_26

set_option maxHeartbeats 4000000 in
set_option maxRecDepth 100000 in
theorem c_piece (l : Launch) (Z : gZ) (h0 : Nat) (a1 : Nat) (a2 : Nat) (a3 : Nat) (a4 : Nat) (a5 : Nat) (a6 : Nat) (a7 : Nat) (a8 : Nat) (a9 : Nat) (a10 : Nat) (a11 : Nat) (a12 : Nat) (x1 : Int32) (x2 : Int32) (x3 : Int32) : Con l Z yX11_piece cX11_piece 4 (some .int) 3 66 0 0 [.ref h0, .int x1, .int x2, .int x3] [(h0, .inr (11, [.ref a1, .ref a2, .ref a3, .ref a4, .ref a5, .ref a6, .ref a7, .ref a8, .ref a9, .ref a10, .ref a11, .ref a12, .int 0, .int 0, .int 5]))] (fun r w' => r = some (.int (-1))) := by
  refine enter (by decide) (Nat.le_of_ble_eq_true rfl) ?_
  intro p e s m args below meth c A X hnm hA
  have X : Cx p s m args meth c cX11_piece 4 (some .int) RX11 Z A := X
  refine g_as (pc' := 0) (lv' := [(0, .ref h0), (1, .int x1), (2, .int x2), (3, .int x3)]) (st' := []) (ws' := [(h0, .inr (11, [.ref a1, .ref a2, .ref a3, .ref a4, .ref a5, .ref a6, .ref a7, .ref a8, .ref a9, .ref a10, .ref a11, .ref a12, .int 0, .int 0, .int 5]))]) rfl rfl rfl rfl ?_
  refine g_aload_n (pc := 0) X 0 rfl dX11_piece_0 ?_
  refine g_iload_n (pc := 1) X 1 rfl dX11_piece_1 ?_
  refine g_callV (pc := 2) X (c_lay0 l Z h0 a1 a2 a3 a4 a5 a6 a7 a8 a9 a10 a11 a12 x1) iM_X11_lay mw_23_9 mw_23_10 mw_23_11 0 rfl rfl [0] [] rfl (wr := []) rfl (by decide) rfl rfl (Nat.le_of_ble_eq_true rfl) (by decide) dX11_piece_2 (fun r w' hpo => ?_)
  obtain ⟨rfl, rfl⟩ := hpo
  refine g_as (pc' := 5) (lv' := [(0, .ref h0), (1, .int x1), (2, .int x2), (3, .int x3)]) (st' := [.int 0]) (ws' := [(h0, .inr (11, [.ref a1, .ref a2, .ref a3, .ref a4, .ref a5, .ref a6, .ref a7, .ref a8, .ref a9, .ref a10, .ref a11, .ref a12, .int 0, .int 0, .int 5]))]) rfl rfl rfl rfl ?_
  refine g_if_eq (pc := 5) X 25 (by decide) dX11_piece_5 (fun b5 => ?_) (fun h => absurd (by decide) h)
  refine g_iconst (pc := 25) X (-1) (by decide) dX11_piece_25 ?_
  exact g_iret (pc := 26) X hA (rfl) (by decide) (by decide) dX11_piece_26

set_option maxHeartbeats 4000000 in
set_option maxRecDepth 100000 in
theorem c_rolls (l : Launch) (Z : gZ) (h0 : Nat) (a1 : Nat) (a2 : Nat) (a3 : Nat) (a4 : Nat) (a5 : Nat) (a6 : Nat) (a7 : Nat) (a8 : Nat) (a9 : Nat) (a10 : Nat) (a11 : Nat) (a12 : Nat) (x1 : Int32) (x2 : Int32) : Con l Z yX11_rolls cX11_rolls 3 (some .int) 3 66 0 0 [.ref h0, .int x1, .int x2] [(h0, .inr (11, [.ref a1, .ref a2, .ref a3, .ref a4, .ref a5, .ref a6, .ref a7, .ref a8, .ref a9, .ref a10, .ref a11, .ref a12, .int 0, .int 0, .int 5]))] (fun r w' => r = some (.int (-1))) := by
  refine enter (by decide) (Nat.le_of_ble_eq_true rfl) ?_
  intro p e s m args below meth c A X hnm hA
  have X : Cx p s m args meth c cX11_rolls 3 (some .int) RX11 Z A := X
  refine g_as (pc' := 0) (lv' := [(0, .ref h0), (1, .int x1), (2, .int x2)]) (st' := []) (ws' := [(h0, .inr (11, [.ref a1, .ref a2, .ref a3, .ref a4, .ref a5, .ref a6, .ref a7, .ref a8, .ref a9, .ref a10, .ref a11, .ref a12, .int 0, .int 0, .int 5]))]) rfl rfl rfl rfl ?_
  refine g_aload_n (pc := 0) X 0 rfl dX11_rolls_0 ?_
  refine g_iload_n (pc := 1) X 1 rfl dX11_rolls_1 ?_
  refine g_callV (pc := 2) X (c_lay0 l Z h0 a1 a2 a3 a4 a5 a6 a7 a8 a9 a10 a11 a12 x1) iM_X11_lay mw_23_9 mw_23_10 mw_23_11 0 rfl rfl [0] [] rfl (wr := []) rfl (by decide) rfl rfl (Nat.le_of_ble_eq_true rfl) (by decide) dX11_rolls_2 (fun r w' hpo => ?_)
  obtain ⟨rfl, rfl⟩ := hpo
  refine g_as (pc' := 5) (lv' := [(0, .ref h0), (1, .int x1), (2, .int x2)]) (st' := [.int 0]) (ws' := [(h0, .inr (11, [.ref a1, .ref a2, .ref a3, .ref a4, .ref a5, .ref a6, .ref a7, .ref a8, .ref a9, .ref a10, .ref a11, .ref a12, .int 0, .int 0, .int 5]))]) rfl rfl rfl rfl ?_
  refine g_if_eq (pc := 5) X 15 (by decide) dX11_rolls_5 (fun b5 => ?_) (fun h => absurd (by decide) h)
  refine g_iconst (pc := 15) X (-1) (by decide) dX11_rolls_15 ?_
  exact g_iret (pc := 16) X hA (rfl) (by decide) (by decide) dX11_rolls_16

set_option maxHeartbeats 4000000 in
set_option maxRecDepth 100000 in
theorem c_left (l : Launch) (Z : gZ) (h0 : Nat) (a1 : Nat) (a2 : Nat) (a3 : Nat) (a4 : Nat) (a5 : Nat) (a6 : Nat) (a7 : Nat) (a8 : Nat) (a9 : Nat) (a10 : Nat) (a11 : Nat) (a12 : Nat) (x1 : Int32) (x2 : Int32) (x3 : Int32) : Con l Z yX11_left cX11_left 4 (some .int) 3 66 0 0 [.ref h0, .int x1, .int x2, .int x3] [(h0, .inr (11, [.ref a1, .ref a2, .ref a3, .ref a4, .ref a5, .ref a6, .ref a7, .ref a8, .ref a9, .ref a10, .ref a11, .ref a12, .int 0, .int 0, .int 5]))] (fun r w' => r = some (.int (-1))) := by
  refine enter (by decide) (Nat.le_of_ble_eq_true rfl) ?_
  intro p e s m args below meth c A X hnm hA
  have X : Cx p s m args meth c cX11_left 4 (some .int) RX11 Z A := X
  refine g_as (pc' := 0) (lv' := [(0, .ref h0), (1, .int x1), (2, .int x2), (3, .int x3)]) (st' := []) (ws' := [(h0, .inr (11, [.ref a1, .ref a2, .ref a3, .ref a4, .ref a5, .ref a6, .ref a7, .ref a8, .ref a9, .ref a10, .ref a11, .ref a12, .int 0, .int 0, .int 5]))]) rfl rfl rfl rfl ?_
  refine g_aload_n (pc := 0) X 0 rfl dX11_left_0 ?_
  refine g_iload_n (pc := 1) X 1 rfl dX11_left_1 ?_
  refine g_callV (pc := 2) X (c_lay0 l Z h0 a1 a2 a3 a4 a5 a6 a7 a8 a9 a10 a11 a12 x1) iM_X11_lay mw_23_9 mw_23_10 mw_23_11 0 rfl rfl [0] [] rfl (wr := []) rfl (by decide) rfl rfl (Nat.le_of_ble_eq_true rfl) (by decide) dX11_left_2 (fun r w' hpo => ?_)
  obtain ⟨rfl, rfl⟩ := hpo
  refine g_as (pc' := 5) (lv' := [(0, .ref h0), (1, .int x1), (2, .int x2), (3, .int x3)]) (st' := [.int 0]) (ws' := [(h0, .inr (11, [.ref a1, .ref a2, .ref a3, .ref a4, .ref a5, .ref a6, .ref a7, .ref a8, .ref a9, .ref a10, .ref a11, .ref a12, .int 0, .int 0, .int 5]))]) rfl rfl rfl rfl ?_
  refine g_if_eq (pc := 5) X 32 (by decide) dX11_left_5 (fun b5 => ?_) (fun h => absurd (by decide) h)
  refine g_iconst (pc := 32) X (-1) (by decide) dX11_left_32 ?_
  exact g_iret (pc := 33) X hA (rfl) (by decide) (by decide) dX11_left_33

set_option maxHeartbeats 4000000 in
set_option maxRecDepth 100000 in
theorem c_faults (l : Launch) (Z : gZ) (h0 : Nat) (a1 : Nat) (a2 : Nat) (a3 : Nat) (a4 : Nat) (a5 : Nat) (a6 : Nat) (a7 : Nat) (a8 : Nat) (a9 : Nat) (a10 : Nat) (a11 : Nat) (a12 : Nat) (x1 : Int32) (x2 : Int32) : Con l Z yX11_faults cX11_faults 4 (some .int) 3 66 0 0 [.ref h0, .int x1, .int x2] [(h0, .inr (11, [.ref a1, .ref a2, .ref a3, .ref a4, .ref a5, .ref a6, .ref a7, .ref a8, .ref a9, .ref a10, .ref a11, .ref a12, .int 0, .int 0, .int 5]))] (fun r w' => r = some (.int (-1))) := by
  refine enter (by decide) (Nat.le_of_ble_eq_true rfl) ?_
  intro p e s m args below meth c A X hnm hA
  have X : Cx p s m args meth c cX11_faults 4 (some .int) RX11 Z A := X
  refine g_as (pc' := 0) (lv' := [(0, .ref h0), (1, .int x1), (2, .int x2)]) (st' := []) (ws' := [(h0, .inr (11, [.ref a1, .ref a2, .ref a3, .ref a4, .ref a5, .ref a6, .ref a7, .ref a8, .ref a9, .ref a10, .ref a11, .ref a12, .int 0, .int 0, .int 5]))]) rfl rfl rfl rfl ?_
  refine g_aload_n (pc := 0) X 0 rfl dX11_faults_0 ?_
  refine g_iload_n (pc := 1) X 1 rfl dX11_faults_1 ?_
  refine g_callV (pc := 2) X (c_lay0 l Z h0 a1 a2 a3 a4 a5 a6 a7 a8 a9 a10 a11 a12 x1) iM_X11_lay mw_23_9 mw_23_10 mw_23_11 0 rfl rfl [0] [] rfl (wr := []) rfl (by decide) rfl rfl (Nat.le_of_ble_eq_true rfl) (by decide) dX11_faults_2 (fun r w' hpo => ?_)
  obtain ⟨rfl, rfl⟩ := hpo
  refine g_as (pc' := 5) (lv' := [(0, .ref h0), (1, .int x1), (2, .int x2)]) (st' := [.int 0]) (ws' := [(h0, .inr (11, [.ref a1, .ref a2, .ref a3, .ref a4, .ref a5, .ref a6, .ref a7, .ref a8, .ref a9, .ref a10, .ref a11, .ref a12, .int 0, .int 0, .int 5]))]) rfl rfl rfl rfl ?_
  refine g_if_ne (pc := 5) X 10 (by decide) dX11_faults_5 (fun h => absurd (by decide) h) (fun b5 => ?_)
  refine g_iconst (pc := 8) X (-1) (by decide) dX11_faults_8 ?_
  exact g_iret (pc := 9) X hA (rfl) (by decide) (by decide) dX11_faults_9

set_option maxHeartbeats 4000000 in
set_option maxRecDepth 100000 in
theorem c_best (l : Launch) (Z : gZ) (h0 : Nat) (a1 : Nat) (a2 : Nat) (a3 : Nat) (a4 : Nat) (a5 : Nat) (a6 : Nat) (a7 : Nat) (a8 : Nat) (a9 : Nat) (a10 : Nat) (a11 : Nat) (a12 : Nat) (x1 : Int32) (x2 : Int32) (x3 : Int32) (x4 : Int32) : Con l Z yX11_best cX11_best 7 (some .int) 2 43 0 0 [.ref h0, .int x1, .int x2, .int x3, .int x4] [(h0, .inr (11, [.ref a1, .ref a2, .ref a3, .ref a4, .ref a5, .ref a6, .ref a7, .ref a8, .ref a9, .ref a10, .ref a11, .ref a12, .int 0, .int 0, .int 5]))] (fun r w' => r = some (.int (-1))) := by
  refine enter (by decide) (Nat.le_of_ble_eq_true rfl) ?_
  intro p e s m args below meth c A X hnm hA
  have X : Cx p s m args meth c cX11_best 7 (some .int) RX11 Z A := X
  refine g_as (pc' := 0) (lv' := [(0, .ref h0), (1, .int x1), (2, .int x2), (3, .int x3), (4, .int x4)]) (st' := []) (ws' := [(h0, .inr (11, [.ref a1, .ref a2, .ref a3, .ref a4, .ref a5, .ref a6, .ref a7, .ref a8, .ref a9, .ref a10, .ref a11, .ref a12, .int 0, .int 0, .int 5]))]) rfl rfl rfl rfl ?_
  refine g_aload_n (pc := 0) X 0 rfl dX11_best_0 ?_
  refine g_iload_n (pc := 1) X 1 rfl dX11_best_1 ?_
  refine g_callV (pc := 2) X (c_roomAt l Z h0 a1 a2 a3 a4 a5 a6 a7 a8 a9 a10 a11 a12 x1) iM_X11_roomAt mw_23_4 mw_23_5 mw_23_6 0 rfl rfl [0] [] rfl (wr := []) rfl (by decide) rfl rfl (Nat.le_of_ble_eq_true rfl) (by decide) dX11_best_2 (fun r w' hpo => ?_)
  obtain ⟨rfl, rfl⟩ := hpo
  refine g_as (pc' := 5) (lv' := [(0, .ref h0), (1, .int x1), (2, .int x2), (3, .int x3), (4, .int x4)]) (st' := [.null]) (ws' := [(h0, .inr (11, [.ref a1, .ref a2, .ref a3, .ref a4, .ref a5, .ref a6, .ref a7, .ref a8, .ref a9, .ref a10, .ref a11, .ref a12, .int 0, .int 0, .int 5]))]) rfl rfl rfl rfl ?_
  refine g_astoreN (pc := 5) X (by decide) (lv' := [(5, .null), (0, .ref h0), (1, .int x1), (2, .int x2), (3, .int x3), (4, .int x4)]) rfl dX11_best_5 ?_
  refine g_aload_n (pc := 7) X 1 rfl dX11_best_7 ?_
  refine g_iload_n (pc := 8) X 3 rfl dX11_best_8 ?_
  refine g_callV (pc := 9) X (c_paperAt l Z h0 a1 a2 a3 a4 a5 a6 a7 a8 a9 a10 a11 a12 x2) iM_X11_paperAt mw_23_15 mw_23_16 mw_23_17 0 rfl rfl [0] [] rfl (wr := []) rfl (by decide) rfl rfl (Nat.le_of_ble_eq_true rfl) (by decide) dX11_best_9 (fun r w' hpo => ?_)
  obtain ⟨rfl, rfl⟩ := hpo
  refine g_as (pc' := 12) (lv' := [(5, .null), (0, .ref h0), (1, .int x1), (2, .int x2), (3, .int x3), (4, .int x4)]) (st' := [.null]) (ws' := [(h0, .inr (11, [.ref a1, .ref a2, .ref a3, .ref a4, .ref a5, .ref a6, .ref a7, .ref a8, .ref a9, .ref a10, .ref a11, .ref a12, .int 0, .int 0, .int 5]))]) rfl rfl rfl rfl ?_
  refine g_astoreN (pc := 12) X (by decide) (lv' := [(6, .null), (5, .null), (0, .ref h0), (1, .int x1), (2, .int x2), (3, .int x3), (4, .int x4)]) rfl dX11_best_12 ?_
  refine g_aloadN (pc := 14) X 1 rfl dX11_best_14 ?_
  refine g_ifnullN (pc := 16) X 44 (by decide) dX11_best_16 ?_
  refine g_iconst (pc := 44) X (-1) (by decide) dX11_best_44 ?_
  exact g_iret (pc := 45) X hA (rfl) (by decide) (by decide) dX11_best_45

set_option maxHeartbeats 4000000 in
set_option maxRecDepth 100000 in
theorem c_shown (l : Launch) (Z : gZ) (h0 : Nat) (a1 : Nat) (a2 : Nat) (a3 : Nat) (a4 : Nat) (a5 : Nat) (a6 : Nat) (a7 : Nat) (a8 : Nat) (a9 : Nat) (a10 : Nat) (a11 : Nat) (a12 : Nat) (x1 : Int32) (x2 : Int32) : Con l Z yX11_shown cX11_shown 4 (some .int) 2 43 0 0 [.ref h0, .int x1, .int x2] [(h0, .inr (11, [.ref a1, .ref a2, .ref a3, .ref a4, .ref a5, .ref a6, .ref a7, .ref a8, .ref a9, .ref a10, .ref a11, .ref a12, .int 0, .int 0, .int 5]))] (fun r w' => r = some (.int (-1))) := by
  refine enter (by decide) (Nat.le_of_ble_eq_true rfl) ?_
  intro p e s m args below meth c A X hnm hA
  have X : Cx p s m args meth c cX11_shown 4 (some .int) RX11 Z A := X
  refine g_as (pc' := 0) (lv' := [(0, .ref h0), (1, .int x1), (2, .int x2)]) (st' := []) (ws' := [(h0, .inr (11, [.ref a1, .ref a2, .ref a3, .ref a4, .ref a5, .ref a6, .ref a7, .ref a8, .ref a9, .ref a10, .ref a11, .ref a12, .int 0, .int 0, .int 5]))]) rfl rfl rfl rfl ?_
  refine g_aload_n (pc := 0) X 0 rfl dX11_shown_0 ?_
  refine g_iload_n (pc := 1) X 1 rfl dX11_shown_1 ?_
  refine g_callV (pc := 2) X (c_roomAt l Z h0 a1 a2 a3 a4 a5 a6 a7 a8 a9 a10 a11 a12 x1) iM_X11_roomAt mw_23_4 mw_23_5 mw_23_6 0 rfl rfl [0] [] rfl (wr := []) rfl (by decide) rfl rfl (Nat.le_of_ble_eq_true rfl) (by decide) dX11_shown_2 (fun r w' hpo => ?_)
  obtain ⟨rfl, rfl⟩ := hpo
  refine g_as (pc' := 5) (lv' := [(0, .ref h0), (1, .int x1), (2, .int x2)]) (st' := [.null]) (ws' := [(h0, .inr (11, [.ref a1, .ref a2, .ref a3, .ref a4, .ref a5, .ref a6, .ref a7, .ref a8, .ref a9, .ref a10, .ref a11, .ref a12, .int 0, .int 0, .int 5]))]) rfl rfl rfl rfl ?_
  refine g_astore_nN (pc := 5) X (i := 3) rfl (by decide) (lv' := [(3, .null), (0, .ref h0), (1, .int x1), (2, .int x2)]) rfl dX11_shown_5 ?_
  refine g_aload_nN (pc := 6) X 0 rfl dX11_shown_6 ?_
  refine g_ifnullN (pc := 7) X 21 (by decide) dX11_shown_7 ?_
  refine g_iconst (pc := 21) X (-1) (by decide) dX11_shown_21 ?_
  exact g_iret (pc := 22) X hA (rfl) (by decide) (by decide) dX11_shown_22

set_option maxHeartbeats 4000000 in
set_option maxRecDepth 100000 in
theorem c_run (l : Launch) (Z : gZ) (h0 : Nat) (a1 : Nat) (a2 : Nat) (a3 : Nat) (a4 : Nat) (a5 : Nat) (a6 : Nat) (a7 : Nat) (a8 : Nat) (a9 : Nat) (a10 : Nat) (a11 : Nat) (a12 : Nat) (x1 : Int32) (x2 : Int32) (x3 : Int32) : Con l Z yX11_run cX11_run 5 (some .int) 2 43 0 0 [.ref h0, .int x1, .int x2, .int x3] [(h0, .inr (11, [.ref a1, .ref a2, .ref a3, .ref a4, .ref a5, .ref a6, .ref a7, .ref a8, .ref a9, .ref a10, .ref a11, .ref a12, .int 0, .int 0, .int 5]))] (fun r w' => r = some (.int (-2147483648))) := by
  refine enter (by decide) (Nat.le_of_ble_eq_true rfl) ?_
  intro p e s m args below meth c A X hnm hA
  have X : Cx p s m args meth c cX11_run 5 (some .int) RX11 Z A := X
  refine g_as (pc' := 0) (lv' := [(0, .ref h0), (1, .int x1), (2, .int x2), (3, .int x3)]) (st' := []) (ws' := [(h0, .inr (11, [.ref a1, .ref a2, .ref a3, .ref a4, .ref a5, .ref a6, .ref a7, .ref a8, .ref a9, .ref a10, .ref a11, .ref a12, .int 0, .int 0, .int 5]))]) rfl rfl rfl rfl ?_
  refine g_aload_n (pc := 0) X 0 rfl dX11_run_0 ?_
  refine g_iload_n (pc := 1) X 1 rfl dX11_run_1 ?_
  refine g_callV (pc := 2) X (c_roomAt l Z h0 a1 a2 a3 a4 a5 a6 a7 a8 a9 a10 a11 a12 x1) iM_X11_roomAt mw_23_4 mw_23_5 mw_23_6 0 rfl rfl [0] [] rfl (wr := []) rfl (by decide) rfl rfl (Nat.le_of_ble_eq_true rfl) (by decide) dX11_run_2 (fun r w' hpo => ?_)
  obtain ⟨rfl, rfl⟩ := hpo
  refine g_as (pc' := 5) (lv' := [(0, .ref h0), (1, .int x1), (2, .int x2), (3, .int x3)]) (st' := [.null]) (ws' := [(h0, .inr (11, [.ref a1, .ref a2, .ref a3, .ref a4, .ref a5, .ref a6, .ref a7, .ref a8, .ref a9, .ref a10, .ref a11, .ref a12, .int 0, .int 0, .int 5]))]) rfl rfl rfl rfl ?_
  refine g_astoreN (pc := 5) X (by decide) (lv' := [(4, .null), (0, .ref h0), (1, .int x1), (2, .int x2), (3, .int x3)]) rfl dX11_run_5 ?_
  refine g_aloadN (pc := 7) X 0 rfl dX11_run_7 ?_
  refine g_ifnullN (pc := 9) X 42 (by decide) dX11_run_9 ?_
  refine g_ldcw (pc := 42) X mw_45_23 dX11_run_42 ?_
  exact g_iret (pc := 45) X hA (rfl) (by decide) (by decide) dX11_run_45

set_option maxHeartbeats 4000000 in
set_option maxRecDepth 100000 in
theorem c_cuts (l : Launch) (Z : gZ) (h0 : Nat) (a1 : Nat) (a2 : Nat) (a3 : Nat) (a4 : Nat) (a5 : Nat) (a6 : Nat) (a7 : Nat) (a8 : Nat) (a9 : Nat) (a10 : Nat) (a11 : Nat) (a12 : Nat) (x1 : Int32) : Con l Z yX11_cuts cX11_cuts 3 (some .int) 2 43 0 0 [.ref h0, .int x1] [(h0, .inr (11, [.ref a1, .ref a2, .ref a3, .ref a4, .ref a5, .ref a6, .ref a7, .ref a8, .ref a9, .ref a10, .ref a11, .ref a12, .int 0, .int 0, .int 5]))] (fun r w' => r = some (.int (-1))) := by
  refine enter (by decide) (Nat.le_of_ble_eq_true rfl) ?_
  intro p e s m args below meth c A X hnm hA
  have X : Cx p s m args meth c cX11_cuts 3 (some .int) RX11 Z A := X
  refine g_as (pc' := 0) (lv' := [(0, .ref h0), (1, .int x1)]) (st' := []) (ws' := [(h0, .inr (11, [.ref a1, .ref a2, .ref a3, .ref a4, .ref a5, .ref a6, .ref a7, .ref a8, .ref a9, .ref a10, .ref a11, .ref a12, .int 0, .int 0, .int 5]))]) rfl rfl rfl rfl ?_
  refine g_aload_n (pc := 0) X 0 rfl dX11_cuts_0 ?_
  refine g_iload_n (pc := 1) X 1 rfl dX11_cuts_1 ?_
  refine g_callV (pc := 2) X (c_roomAt l Z h0 a1 a2 a3 a4 a5 a6 a7 a8 a9 a10 a11 a12 x1) iM_X11_roomAt mw_23_4 mw_23_5 mw_23_6 0 rfl rfl [0] [] rfl (wr := []) rfl (by decide) rfl rfl (Nat.le_of_ble_eq_true rfl) (by decide) dX11_cuts_2 (fun r w' hpo => ?_)
  obtain ⟨rfl, rfl⟩ := hpo
  refine g_as (pc' := 5) (lv' := [(0, .ref h0), (1, .int x1)]) (st' := [.null]) (ws' := [(h0, .inr (11, [.ref a1, .ref a2, .ref a3, .ref a4, .ref a5, .ref a6, .ref a7, .ref a8, .ref a9, .ref a10, .ref a11, .ref a12, .int 0, .int 0, .int 5]))]) rfl rfl rfl rfl ?_
  refine g_astore_nN (pc := 5) X (i := 2) rfl (by decide) (lv' := [(2, .null), (0, .ref h0), (1, .int x1)]) rfl dX11_cuts_5 ?_
  refine g_aload_nN (pc := 6) X 0 rfl dX11_cuts_6 ?_
  refine g_ifnonnullN (pc := 7) X dX11_cuts_7 ?_
  refine g_iconst (pc := 10) X (-1) (by decide) dX11_cuts_10 ?_
  refine g_goto (pc := 11) X 21 (by decide) dX11_cuts_11 ?_
  exact g_iret (pc := 21) X hA (rfl) (by decide) (by decide) dX11_cuts_21

set_option maxHeartbeats 4000000 in
set_option maxRecDepth 100000 in
theorem c_batch (l : Launch) (Z : gZ) (h0 : Nat) (a1 : Nat) (a2 : Nat) (a3 : Nat) (a4 : Nat) (a5 : Nat) (a6 : Nat) (a7 : Nat) (a8 : Nat) (a9 : Nat) (a10 : Nat) (a11 : Nat) (a12 : Nat) (x1 : Int32) (x2 : Int32) : Con l Z yX11_batch cX11_batch 3 (some .int) 2 43 0 0 [.ref h0, .int x1, .int x2] [(h0, .inr (11, [.ref a1, .ref a2, .ref a3, .ref a4, .ref a5, .ref a6, .ref a7, .ref a8, .ref a9, .ref a10, .ref a11, .ref a12, .int 0, .int 0, .int 5]))] (fun r w' => r = some (.int (-1))) := by
  refine enter (by decide) (Nat.le_of_ble_eq_true rfl) ?_
  intro p e s m args below meth c A X hnm hA
  have X : Cx p s m args meth c cX11_batch 3 (some .int) RX11 Z A := X
  refine g_as (pc' := 0) (lv' := [(0, .ref h0), (1, .int x1), (2, .int x2)]) (st' := []) (ws' := [(h0, .inr (11, [.ref a1, .ref a2, .ref a3, .ref a4, .ref a5, .ref a6, .ref a7, .ref a8, .ref a9, .ref a10, .ref a11, .ref a12, .int 0, .int 0, .int 5]))]) rfl rfl rfl rfl ?_
  refine g_aload_n (pc := 0) X 0 rfl dX11_batch_0 ?_
  refine g_iload_n (pc := 1) X 1 rfl dX11_batch_1 ?_
  refine g_callV (pc := 2) X (c_paperAt l Z h0 a1 a2 a3 a4 a5 a6 a7 a8 a9 a10 a11 a12 x1) iM_X11_paperAt mw_23_15 mw_23_16 mw_23_17 0 rfl rfl [0] [] rfl (wr := []) rfl (by decide) rfl rfl (Nat.le_of_ble_eq_true rfl) (by decide) dX11_batch_2 (fun r w' hpo => ?_)
  obtain ⟨rfl, rfl⟩ := hpo
  refine g_as (pc' := 5) (lv' := [(0, .ref h0), (1, .int x1), (2, .int x2)]) (st' := [.null]) (ws' := [(h0, .inr (11, [.ref a1, .ref a2, .ref a3, .ref a4, .ref a5, .ref a6, .ref a7, .ref a8, .ref a9, .ref a10, .ref a11, .ref a12, .int 0, .int 0, .int 5]))]) rfl rfl rfl rfl ?_
  refine g_ifnonnullN (pc := 5) X dX11_batch_5 ?_
  refine g_iconst (pc := 8) X (-1) (by decide) dX11_batch_8 ?_
  exact g_iret (pc := 9) X hA (rfl) (by decide) (by decide) dX11_batch_9

set_option maxHeartbeats 4000000 in
set_option maxRecDepth 100000 in
theorem c_shared (l : Launch) (Z : gZ) (h0 : Nat) (a1 : Nat) (a2 : Nat) (a3 : Nat) (a4 : Nat) (a5 : Nat) (a6 : Nat) (a7 : Nat) (a8 : Nat) (a9 : Nat) (a10 : Nat) (a11 : Nat) (a12 : Nat) (x1 : Int32) (x2 : Int32) : Con l Z yX11_shared cX11_shared 3 (some .int) 3 66 0 0 [.ref h0, .int x1, .int x2] [(h0, .inr (11, [.ref a1, .ref a2, .ref a3, .ref a4, .ref a5, .ref a6, .ref a7, .ref a8, .ref a9, .ref a10, .ref a11, .ref a12, .int 0, .int 0, .int 5]))] (fun r w' => r = some (.int (-1))) := by
  refine enter (by decide) (Nat.le_of_ble_eq_true rfl) ?_
  intro p e s m args below meth c A X hnm hA
  have X : Cx p s m args meth c cX11_shared 3 (some .int) RX11 Z A := X
  refine g_as (pc' := 0) (lv' := [(0, .ref h0), (1, .int x1), (2, .int x2)]) (st' := []) (ws' := [(h0, .inr (11, [.ref a1, .ref a2, .ref a3, .ref a4, .ref a5, .ref a6, .ref a7, .ref a8, .ref a9, .ref a10, .ref a11, .ref a12, .int 0, .int 0, .int 5]))]) rfl rfl rfl rfl ?_
  refine g_aload_n (pc := 0) X 0 rfl dX11_shared_0 ?_
  refine g_iload_n (pc := 1) X 1 rfl dX11_shared_1 ?_
  refine g_callV (pc := 2) X (c_lay0 l Z h0 a1 a2 a3 a4 a5 a6 a7 a8 a9 a10 a11 a12 x1) iM_X11_lay mw_23_9 mw_23_10 mw_23_11 0 rfl rfl [0] [] rfl (wr := []) rfl (by decide) rfl rfl (Nat.le_of_ble_eq_true rfl) (by decide) dX11_shared_2 (fun r w' hpo => ?_)
  obtain ⟨rfl, rfl⟩ := hpo
  refine g_as (pc' := 5) (lv' := [(0, .ref h0), (1, .int x1), (2, .int x2)]) (st' := [.int 0]) (ws' := [(h0, .inr (11, [.ref a1, .ref a2, .ref a3, .ref a4, .ref a5, .ref a6, .ref a7, .ref a8, .ref a9, .ref a10, .ref a11, .ref a12, .int 0, .int 0, .int 5]))]) rfl rfl rfl rfl ?_
  refine g_if_eq (pc := 5) X 39 (by decide) dX11_shared_5 (fun b5 => ?_) (fun h => absurd (by decide) h)
  refine g_iconst (pc := 39) X (-1) (by decide) dX11_shared_39 ?_
  exact g_iret (pc := 40) X hA (rfl) (by decide) (by decide) dX11_shared_40

set_option maxHeartbeats 4000000 in
set_option maxRecDepth 100000 in
theorem c_own (l : Launch) (Z : gZ) (h0 : Nat) (a1 : Nat) (a2 : Nat) (a3 : Nat) (a4 : Nat) (a5 : Nat) (a6 : Nat) (a7 : Nat) (a8 : Nat) (a9 : Nat) (a10 : Nat) (a11 : Nat) (a12 : Nat) (x1 : Int32) (x2 : Int32) : Con l Z yX11_own cX11_own 3 (some .int) 3 66 0 0 [.ref h0, .int x1, .int x2] [(h0, .inr (11, [.ref a1, .ref a2, .ref a3, .ref a4, .ref a5, .ref a6, .ref a7, .ref a8, .ref a9, .ref a10, .ref a11, .ref a12, .int 0, .int 0, .int 5]))] (fun r w' => r = some (.int (-1))) := by
  refine enter (by decide) (Nat.le_of_ble_eq_true rfl) ?_
  intro p e s m args below meth c A X hnm hA
  have X : Cx p s m args meth c cX11_own 3 (some .int) RX11 Z A := X
  refine g_as (pc' := 0) (lv' := [(0, .ref h0), (1, .int x1), (2, .int x2)]) (st' := []) (ws' := [(h0, .inr (11, [.ref a1, .ref a2, .ref a3, .ref a4, .ref a5, .ref a6, .ref a7, .ref a8, .ref a9, .ref a10, .ref a11, .ref a12, .int 0, .int 0, .int 5]))]) rfl rfl rfl rfl ?_
  refine g_aload_n (pc := 0) X 0 rfl dX11_own_0 ?_
  refine g_iload_n (pc := 1) X 1 rfl dX11_own_1 ?_
  refine g_callV (pc := 2) X (c_lay0 l Z h0 a1 a2 a3 a4 a5 a6 a7 a8 a9 a10 a11 a12 x1) iM_X11_lay mw_23_9 mw_23_10 mw_23_11 0 rfl rfl [0] [] rfl (wr := []) rfl (by decide) rfl rfl (Nat.le_of_ble_eq_true rfl) (by decide) dX11_own_2 (fun r w' hpo => ?_)
  obtain ⟨rfl, rfl⟩ := hpo
  refine g_as (pc' := 5) (lv' := [(0, .ref h0), (1, .int x1), (2, .int x2)]) (st' := [.int 0]) (ws' := [(h0, .inr (11, [.ref a1, .ref a2, .ref a3, .ref a4, .ref a5, .ref a6, .ref a7, .ref a8, .ref a9, .ref a10, .ref a11, .ref a12, .int 0, .int 0, .int 5]))]) rfl rfl rfl rfl ?_
  refine g_if_eq (pc := 5) X 31 (by decide) dX11_own_5 (fun b5 => ?_) (fun h => absurd (by decide) h)
  refine g_iconst (pc := 31) X (-1) (by decide) dX11_own_31 ?_
  exact g_iret (pc := 32) X hA (rfl) (by decide) (by decide) dX11_own_32

set_option maxHeartbeats 4000000 in
set_option maxRecDepth 100000 in
theorem c_all (l : Launch) (Z : gZ) (h0 : Nat) (a1 : Nat) (a2 : Nat) (a3 : Nat) (a4 : Nat) (a5 : Nat) (a6 : Nat) (a7 : Nat) (a8 : Nat) (a9 : Nat) (a10 : Nat) (a11 : Nat) (a12 : Nat) (x1 : Int32) : Con l Z yX11_all cX11_all 4 (some .int) 2 43 0 0 [.ref h0, .int x1] [(h0, .inr (11, [.ref a1, .ref a2, .ref a3, .ref a4, .ref a5, .ref a6, .ref a7, .ref a8, .ref a9, .ref a10, .ref a11, .ref a12, .int 0, .int 0, .int 5]))] (fun r w' => r = some (.int (-1))) := by
  refine enter (by decide) (Nat.le_of_ble_eq_true rfl) ?_
  intro p e s m args below meth c A X hnm hA
  have X : Cx p s m args meth c cX11_all 4 (some .int) RX11 Z A := X
  refine g_as (pc' := 0) (lv' := [(0, .ref h0), (1, .int x1)]) (st' := []) (ws' := [(h0, .inr (11, [.ref a1, .ref a2, .ref a3, .ref a4, .ref a5, .ref a6, .ref a7, .ref a8, .ref a9, .ref a10, .ref a11, .ref a12, .int 0, .int 0, .int 5]))]) rfl rfl rfl rfl ?_
  refine g_aload_n (pc := 0) X 0 rfl dX11_all_0 ?_
  refine g_iload_n (pc := 1) X 1 rfl dX11_all_1 ?_
  refine g_callV (pc := 2) X (c_paperAt l Z h0 a1 a2 a3 a4 a5 a6 a7 a8 a9 a10 a11 a12 x1) iM_X11_paperAt mw_23_15 mw_23_16 mw_23_17 0 rfl rfl [0] [] rfl (wr := []) rfl (by decide) rfl rfl (Nat.le_of_ble_eq_true rfl) (by decide) dX11_all_2 (fun r w' hpo => ?_)
  obtain ⟨rfl, rfl⟩ := hpo
  refine g_as (pc' := 5) (lv' := [(0, .ref h0), (1, .int x1)]) (st' := [.null]) (ws' := [(h0, .inr (11, [.ref a1, .ref a2, .ref a3, .ref a4, .ref a5, .ref a6, .ref a7, .ref a8, .ref a9, .ref a10, .ref a11, .ref a12, .int 0, .int 0, .int 5]))]) rfl rfl rfl rfl ?_
  refine g_astore_nN (pc := 5) X (i := 2) rfl (by decide) (lv' := [(2, .null), (0, .ref h0), (1, .int x1)]) rfl dX11_all_5 ?_
  refine g_aload_nN (pc := 6) X 0 rfl dX11_all_6 ?_
  refine g_ifnonnullN (pc := 7) X dX11_all_7 ?_
  refine g_iconst (pc := 10) X (-1) (by decide) dX11_all_10 ?_
  exact g_iret (pc := 11) X hA (rfl) (by decide) (by decide) dX11_all_11

set_option maxHeartbeats 4000000 in
set_option maxRecDepth 100000 in
theorem c_keep (l : Launch) (Z : gZ) (h0 : Nat) (a1 : Nat) (a2 : Nat) (a3 : Nat) (a4 : Nat) (a5 : Nat) (a6 : Nat) (a7 : Nat) (a8 : Nat) (a9 : Nat) (a10 : Nat) (a11 : Nat) (a12 : Nat) (x1 : Int32) (x2 : Int32) (x3 : Int32) : Con l Z yX11_keep cX11_keep 5 (some .int) 2 43 0 0 [.ref h0, .int x1, .int x2, .int x3] [(h0, .inr (11, [.ref a1, .ref a2, .ref a3, .ref a4, .ref a5, .ref a6, .ref a7, .ref a8, .ref a9, .ref a10, .ref a11, .ref a12, .int 0, .int 0, .int 5]))] (fun r w' => r = some (.int (-1))) := by
  refine enter (by decide) (Nat.le_of_ble_eq_true rfl) ?_
  intro p e s m args below meth c A X hnm hA
  have X : Cx p s m args meth c cX11_keep 5 (some .int) RX11 Z A := X
  refine g_as (pc' := 0) (lv' := [(0, .ref h0), (1, .int x1), (2, .int x2), (3, .int x3)]) (st' := []) (ws' := [(h0, .inr (11, [.ref a1, .ref a2, .ref a3, .ref a4, .ref a5, .ref a6, .ref a7, .ref a8, .ref a9, .ref a10, .ref a11, .ref a12, .int 0, .int 0, .int 5]))]) rfl rfl rfl rfl ?_
  refine g_aload_n (pc := 0) X 0 rfl dX11_keep_0 ?_
  refine g_iload_n (pc := 1) X 1 rfl dX11_keep_1 ?_
  refine g_callV (pc := 2) X (c_paperAt l Z h0 a1 a2 a3 a4 a5 a6 a7 a8 a9 a10 a11 a12 x1) iM_X11_paperAt mw_23_15 mw_23_16 mw_23_17 0 rfl rfl [0] [] rfl (wr := []) rfl (by decide) rfl rfl (Nat.le_of_ble_eq_true rfl) (by decide) dX11_keep_2 (fun r w' hpo => ?_)
  obtain ⟨rfl, rfl⟩ := hpo
  refine g_as (pc' := 5) (lv' := [(0, .ref h0), (1, .int x1), (2, .int x2), (3, .int x3)]) (st' := [.null]) (ws' := [(h0, .inr (11, [.ref a1, .ref a2, .ref a3, .ref a4, .ref a5, .ref a6, .ref a7, .ref a8, .ref a9, .ref a10, .ref a11, .ref a12, .int 0, .int 0, .int 5]))]) rfl rfl rfl rfl ?_
  refine g_astoreN (pc := 5) X (by decide) (lv' := [(4, .null), (0, .ref h0), (1, .int x1), (2, .int x2), (3, .int x3)]) rfl dX11_keep_5 ?_
  refine g_aloadN (pc := 7) X 0 rfl dX11_keep_7 ?_
  refine g_ifnullN (pc := 9) X 27 (by decide) dX11_keep_9 ?_
  refine g_iconst (pc := 27) X (-1) (by decide) dX11_keep_27 ?_
  exact g_iret (pc := 28) X hA (rfl) (by decide) (by decide) dX11_keep_28

set_option maxHeartbeats 4000000 in
set_option maxRecDepth 100000 in
theorem c_mended (l : Launch) (Z : gZ) (h0 : Nat) (a1 : Nat) (a2 : Nat) (a3 : Nat) (a4 : Nat) (a5 : Nat) (a6 : Nat) (a7 : Nat) (a8 : Nat) (a9 : Nat) (a10 : Nat) (a11 : Nat) (a12 : Nat) (x1 : Int32) (x2 : Int32) : Con l Z yX11_mended cX11_mended 3 (some .int) 3 66 0 0 [.ref h0, .int x1, .int x2] [(h0, .inr (11, [.ref a1, .ref a2, .ref a3, .ref a4, .ref a5, .ref a6, .ref a7, .ref a8, .ref a9, .ref a10, .ref a11, .ref a12, .int 0, .int 0, .int 5]))] (fun r w' => r = some (.int (-1))) := by
  refine enter (by decide) (Nat.le_of_ble_eq_true rfl) ?_
  intro p e s m args below meth c A X hnm hA
  have X : Cx p s m args meth c cX11_mended 3 (some .int) RX11 Z A := X
  refine g_as (pc' := 0) (lv' := [(0, .ref h0), (1, .int x1), (2, .int x2)]) (st' := []) (ws' := [(h0, .inr (11, [.ref a1, .ref a2, .ref a3, .ref a4, .ref a5, .ref a6, .ref a7, .ref a8, .ref a9, .ref a10, .ref a11, .ref a12, .int 0, .int 0, .int 5]))]) rfl rfl rfl rfl ?_
  refine g_aload_n (pc := 0) X 0 rfl dX11_mended_0 ?_
  refine g_iload_n (pc := 1) X 1 rfl dX11_mended_1 ?_
  refine g_callV (pc := 2) X (c_lay0 l Z h0 a1 a2 a3 a4 a5 a6 a7 a8 a9 a10 a11 a12 x1) iM_X11_lay mw_23_9 mw_23_10 mw_23_11 0 rfl rfl [0] [] rfl (wr := []) rfl (by decide) rfl rfl (Nat.le_of_ble_eq_true rfl) (by decide) dX11_mended_2 (fun r w' hpo => ?_)
  obtain ⟨rfl, rfl⟩ := hpo
  refine g_as (pc' := 5) (lv' := [(0, .ref h0), (1, .int x1), (2, .int x2)]) (st' := [.int 0]) (ws' := [(h0, .inr (11, [.ref a1, .ref a2, .ref a3, .ref a4, .ref a5, .ref a6, .ref a7, .ref a8, .ref a9, .ref a10, .ref a11, .ref a12, .int 0, .int 0, .int 5]))]) rfl rfl rfl rfl ?_
  refine g_if_eq (pc := 5) X 32 (by decide) dX11_mended_5 (fun b5 => ?_) (fun h => absurd (by decide) h)
  refine g_iconst (pc := 32) X (-1) (by decide) dX11_mended_32 ?_
  exact g_iret (pc := 33) X hA (rfl) (by decide) (by decide) dX11_mended_33

set_option maxHeartbeats 4000000 in
set_option maxRecDepth 100000 in
theorem c_border (l : Launch) (Z : gZ) (h0 : Nat) (a1 : Nat) (a2 : Nat) (a3 : Nat) (a4 : Nat) (a5 : Nat) (a6 : Nat) (a7 : Nat) (a8 : Nat) (a9 : Nat) (a10 : Nat) (a11 : Nat) (a12 : Nat) (x1 : Int32) (x2 : Int32) (x3 : Int32) : Con l Z yX11_border cX11_border 5 (some .int) 2 43 0 0 [.ref h0, .int x1, .int x2, .int x3] [(h0, .inr (11, [.ref a1, .ref a2, .ref a3, .ref a4, .ref a5, .ref a6, .ref a7, .ref a8, .ref a9, .ref a10, .ref a11, .ref a12, .int 0, .int 0, .int 5]))] (fun r w' => r = some (.int (-1))) := by
  refine enter (by decide) (Nat.le_of_ble_eq_true rfl) ?_
  intro p e s m args below meth c A X hnm hA
  have X : Cx p s m args meth c cX11_border 5 (some .int) RX11 Z A := X
  refine g_as (pc' := 0) (lv' := [(0, .ref h0), (1, .int x1), (2, .int x2), (3, .int x3)]) (st' := []) (ws' := [(h0, .inr (11, [.ref a1, .ref a2, .ref a3, .ref a4, .ref a5, .ref a6, .ref a7, .ref a8, .ref a9, .ref a10, .ref a11, .ref a12, .int 0, .int 0, .int 5]))]) rfl rfl rfl rfl ?_
  refine g_aload_n (pc := 0) X 0 rfl dX11_border_0 ?_
  refine g_iload_n (pc := 1) X 1 rfl dX11_border_1 ?_
  refine g_callV (pc := 2) X (c_roomAt l Z h0 a1 a2 a3 a4 a5 a6 a7 a8 a9 a10 a11 a12 x1) iM_X11_roomAt mw_23_4 mw_23_5 mw_23_6 0 rfl rfl [0] [] rfl (wr := []) rfl (by decide) rfl rfl (Nat.le_of_ble_eq_true rfl) (by decide) dX11_border_2 (fun r w' hpo => ?_)
  obtain ⟨rfl, rfl⟩ := hpo
  refine g_as (pc' := 5) (lv' := [(0, .ref h0), (1, .int x1), (2, .int x2), (3, .int x3)]) (st' := [.null]) (ws' := [(h0, .inr (11, [.ref a1, .ref a2, .ref a3, .ref a4, .ref a5, .ref a6, .ref a7, .ref a8, .ref a9, .ref a10, .ref a11, .ref a12, .int 0, .int 0, .int 5]))]) rfl rfl rfl rfl ?_
  refine g_astoreN (pc := 5) X (by decide) (lv' := [(4, .null), (0, .ref h0), (1, .int x1), (2, .int x2), (3, .int x3)]) rfl dX11_border_5 ?_
  refine g_aloadN (pc := 7) X 0 rfl dX11_border_7 ?_
  refine g_ifnullN (pc := 9) X 35 (by decide) dX11_border_9 ?_
  refine g_iconst (pc := 35) X (-1) (by decide) dX11_border_35 ?_
  exact g_iret (pc := 36) X hA (rfl) (by decide) (by decide) dX11_border_36

set_option maxHeartbeats 4000000 in
set_option maxRecDepth 100000 in
theorem c_day (l : Launch) (Z : gZ) (h0 : Nat) (a1 : Nat) (a2 : Nat) (a3 : Nat) (a4 : Nat) (a5 : Nat) (a6 : Nat) (a7 : Nat) (a8 : Nat) (a9 : Nat) (a10 : Nat) (a11 : Nat) (a12 : Nat) (x1 : Int32) (x2 : Int32) (x3 : Int32) (x4 : Int32) (x5 : Int32) : Con l Z yX11_day cX11_day 7 (some .int) 3 66 0 0 [.ref h0, .int x1, .int x2, .int x3, .int x4, .int x5] [(h0, .inr (11, [.ref a1, .ref a2, .ref a3, .ref a4, .ref a5, .ref a6, .ref a7, .ref a8, .ref a9, .ref a10, .ref a11, .ref a12, .int 0, .int 0, .int 5]))] (fun r w' => r = some (.int (-1))) := by
  refine enter (by decide) (Nat.le_of_ble_eq_true rfl) ?_
  intro p e s m args below meth c A X hnm hA
  have X : Cx p s m args meth c cX11_day 7 (some .int) RX11 Z A := X
  refine g_as (pc' := 0) (lv' := [(0, .ref h0), (1, .int x1), (2, .int x2), (3, .int x3), (4, .int x4), (5, .int x5)]) (st' := []) (ws' := [(h0, .inr (11, [.ref a1, .ref a2, .ref a3, .ref a4, .ref a5, .ref a6, .ref a7, .ref a8, .ref a9, .ref a10, .ref a11, .ref a12, .int 0, .int 0, .int 5]))]) rfl rfl rfl rfl ?_
  refine g_aload_n (pc := 0) X 0 rfl dX11_day_0 ?_
  refine g_iload_n (pc := 1) X 1 rfl dX11_day_1 ?_
  refine g_callV (pc := 2) X (c_lay0 l Z h0 a1 a2 a3 a4 a5 a6 a7 a8 a9 a10 a11 a12 x1) iM_X11_lay mw_23_9 mw_23_10 mw_23_11 0 rfl rfl [0] [] rfl (wr := []) rfl (by decide) rfl rfl (Nat.le_of_ble_eq_true rfl) (by decide) dX11_day_2 (fun r w' hpo => ?_)
  obtain ⟨rfl, rfl⟩ := hpo
  refine g_as (pc' := 5) (lv' := [(0, .ref h0), (1, .int x1), (2, .int x2), (3, .int x3), (4, .int x4), (5, .int x5)]) (st' := [.int 0]) (ws' := [(h0, .inr (11, [.ref a1, .ref a2, .ref a3, .ref a4, .ref a5, .ref a6, .ref a7, .ref a8, .ref a9, .ref a10, .ref a11, .ref a12, .int 0, .int 0, .int 5]))]) rfl rfl rfl rfl ?_
  refine g_if_eq (pc := 5) X 32 (by decide) dX11_day_5 (fun b5 => ?_) (fun h => absurd (by decide) h)
  refine g_iconst (pc := 32) X (-1) (by decide) dX11_day_32 ?_
  exact g_iret (pc := 33) X hA (rfl) (by decide) (by decide) dX11_day_33

set_option maxHeartbeats 4000000 in
set_option maxRecDepth 100000 in
theorem c_hang (l : Launch) (Z : gZ) (h0 : Nat) (a1 : Nat) (a2 : Nat) (a3 : Nat) (a4 : Nat) (a5 : Nat) (a6 : Nat) (a7 : Nat) (a8 : Nat) (a9 : Nat) (a10 : Nat) (a11 : Nat) (a12 : Nat) (x1 : Int32) (x2 : Int32) : Con l Z yX11_hang cX11_hang 3 (some .int) 3 66 0 0 [.ref h0, .int x1, .int x2] [(h0, .inr (11, [.ref a1, .ref a2, .ref a3, .ref a4, .ref a5, .ref a6, .ref a7, .ref a8, .ref a9, .ref a10, .ref a11, .ref a12, .int 0, .int 0, .int 5]))] (fun r w' => r = some (.int (-1))) := by
  refine enter (by decide) (Nat.le_of_ble_eq_true rfl) ?_
  intro p e s m args below meth c A X hnm hA
  have X : Cx p s m args meth c cX11_hang 3 (some .int) RX11 Z A := X
  refine g_as (pc' := 0) (lv' := [(0, .ref h0), (1, .int x1), (2, .int x2)]) (st' := []) (ws' := [(h0, .inr (11, [.ref a1, .ref a2, .ref a3, .ref a4, .ref a5, .ref a6, .ref a7, .ref a8, .ref a9, .ref a10, .ref a11, .ref a12, .int 0, .int 0, .int 5]))]) rfl rfl rfl rfl ?_
  refine g_aload_n (pc := 0) X 0 rfl dX11_hang_0 ?_
  refine g_iload_n (pc := 1) X 1 rfl dX11_hang_1 ?_
  refine g_callV (pc := 2) X (c_lay0 l Z h0 a1 a2 a3 a4 a5 a6 a7 a8 a9 a10 a11 a12 x1) iM_X11_lay mw_23_9 mw_23_10 mw_23_11 0 rfl rfl [0] [] rfl (wr := []) rfl (by decide) rfl rfl (Nat.le_of_ble_eq_true rfl) (by decide) dX11_hang_2 (fun r w' hpo => ?_)
  obtain ⟨rfl, rfl⟩ := hpo
  refine g_as (pc' := 5) (lv' := [(0, .ref h0), (1, .int x1), (2, .int x2)]) (st' := [.int 0]) (ws' := [(h0, .inr (11, [.ref a1, .ref a2, .ref a3, .ref a4, .ref a5, .ref a6, .ref a7, .ref a8, .ref a9, .ref a10, .ref a11, .ref a12, .int 0, .int 0, .int 5]))]) rfl rfl rfl rfl ?_
  refine g_if_eq (pc := 5) X 33 (by decide) dX11_hang_5 (fun b5 => ?_) (fun h => absurd (by decide) h)
  refine g_iconst (pc := 33) X (-1) (by decide) dX11_hang_33 ?_
  exact g_iret (pc := 34) X hA (rfl) (by decide) (by decide) dX11_hang_34
