set_option maxHeartbeats 4000000 in
set_option maxRecDepth 100000 in
theorem law_body {p : Program} {l : Launch} {e : Env} {s : State} {m : MethodId} {below : List Frame} {meth : Method} {c : Code} {b L : Nat} {xs : Nat → Int32} {Z : gZ} (X : Cx p s m #[Value.ref b] meth c cL_law 4 ret R_law Z (fun q => s.heap.size ≤ q)) (hX : va_X b L xs s s.heap) (hbl : b < s.heap.size) (hL : L ≤ 3072) : Gs p l e room_1 s m #[Value.ref b] below meth c (lw_Z below #[Value.ref b] s) Z (fun q => s.heap.size ≤ q) 4 0 0 0 [(0, .ref b)] [] [] := by
  refine g_new (pc := 0) (ci := 11) X inlX11 tyX11_ok mw_1_0 mw_1_1 mw_1_2 rfl df_X11 (by decide) (by decide) dL_law_0 (fun o0 => ?_)
  refine g_as (pc' := 3) (lv' := [(0, .ref b)]) (st' := [.ref o0]) (ws' := [(o0, .inr (11, [.null, .null, .null, .null, .null, .null, .null, .null, .null, .null, .null, .null, .int (iI 0), .int (iI 0), .int (iI 0)]))]) rfl rfl rfl rfl ?_
  refine g_dup (pc := 3) X rfl dL_law_3 ?_
  refine g_callIP (pc := 4) (wr := []) X (k_X11_init l Z o0) iM_X11_init rfl mw_1_6 mw_1_7 (List.Perm.of_eq (List.append_nil _).symm) rfl rfl (Nat.le_of_ble_eq_true rfl) (by decide) dL_law_4 (fun r w' hpo => ?_)
  obtain ⟨hr1, TbX, I⟩ := cI_of (Z := Z) (o0 := o0) hpo
  subst hr1
  refine g_as (pc' := 7) (lv' := [(0, .ref b)]) (st' := [.ref o0]) (ws' := w') rfl rfl rfl (List.append_nil _) ?_
  refine g_astore_n (pc := 7) X (i := 1) rfl (by decide) (lv' := [(1, .ref o0), (0, .ref b)]) rfl dL_law_7 ?_
  refine g_new (pc := 8) (ci := 12) X inlX12 tyX12_ok mw_1_3 mw_1_4 mw_1_5 rfl df_X12 (by decide) (by decide) dL_law_8 (fun g0 => ?_)
  refine g_dup (pc := 11) X rfl dL_law_11 ?_
  refine g_callIP (pc := 12) (w := [(g0, .inr (12, [.null, .null, .null, .null, .null, .null, .null, .null, .null, .null, .null, .null, .null, .null, .null, .null, .null, .null, .int (iI 0), .null, .int (iI 0), .int (iI 0), .int (iI 0), .int (iI 0), .int (iI 0), .null, .null, .null, .null, .null, .null, .null, .int (iI 0), .int (iI 0), .null, .null, .null, .null, .null, .null, .null, .null, .null, .null, .null, .null, .null, .int (iI 0), .int (iI 0), .int (iI 0), .int (iI 0), .int (iI 0), .int (iI 0), .int (iI 0), .null, .int (iI 0), .null, .null, .null, .null, .null, .null, .null, .null, .int (iI 0), .int (iI 0), .null, .null, .null, .int (iI 0), .null, .null, .null, .null, .null]))]) (wr := w') X (k_X12_init l Z g0) iM_X12_init rfl mw_7_7 mw_7_8 List.perm_append_comm rfl rfl (Nat.le_of_ble_eq_true rfl) (by decide) dL_law_12 (fun r w2 hpo2 => ?_)
  obtain ⟨hr2, J⟩ := mI_of (Z := Z) (g0 := g0) (TbX := TbX) hpo2
  subst hr2
  refine g_as (pc' := 15) (lv' := [(1, .ref o0), (0, .ref b)]) (st' := [.ref g0]) (ws' := w2 ++ w') rfl rfl rfl rfl ?_
  refine g_perm List.perm_append_comm ?_
  refine g_astore_n (pc := 15) X (i := 2) rfl (by decide) (lv' := [(2, .ref g0), (1, .ref o0), (0, .ref b)]) rfl dL_law_15 ?_
  refine g_iconst (pc := 16) X (iI 0) (by rfl) dL_law_16 ?_
  refine g_istore_n (pc := 17) X (i := 3) rfl (by decide) (lv' := [(3, .int (iI 0)), (2, .ref g0), (1, .ref o0), (0, .ref b)]) rfl dL_law_17 ?_
  exact law_loop X hX hbl hL 513 _ _ 0 0 0 0 0 5 0 zF zF zF TbX (fun _ => []) w' w2 (by omega) (by omega) (by omega) I J (by decide) (by decide)
