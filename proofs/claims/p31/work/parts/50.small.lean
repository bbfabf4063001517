set_option maxHeartbeats 4000000 in
set_option maxRecDepth 100000 in
theorem k_X11_isFrom (l : Launch) (Z : gZ) (a : Int) (v : Int) (b : Int) (b_a : (-2147483648) ≤ a ∧ a ≤ 2147483647) (b_v : (-2147483648) ≤ v ∧ v ≤ 2147483647) (b_b : (-2147483648) ≤ b ∧ b ≤ 2147483647) : Con l Z yX11_isFrom cX11_isFrom 3 (some .boolean) 0 0 0 0 [.int (iI a), .int (iI v), .int (iI b)] [] (fun r w' => (r = some (.int (iI (bI (a ≤ v ∧ v ≤ b))))) ∧ (w' = [])) := by
  refine enter (by decide) (Nat.le_of_ble_eq_true rfl) ?_
  intro p e s m args below meth c A X hnm hA
  have X : Cx p s m args meth c cX11_isFrom 3 (some .boolean) RX11 Z A := X
  refine g_as (pc' := 0) (lv' := [(0, .int (iI a)), (1, .int (iI v)), (2, .int (iI b))]) (st' := []) (ws' := []) rfl rfl rfl rfl ?_
  refine g_iload_n (pc := 0) X 1 rfl dX11_isFrom_0 ?_
  refine g_iload_n (pc := 1) X 0 rfl dX11_isFrom_1 ?_
  refine g_icmp_ltI (pc := 2) X 14 (by decide) b_v b_a dX11_isFrom_2 (fun c2 => ?_) (fun c2 => ?_)
  · refine g_iconst (pc := 14) X (iI 0) (by rfl) dX11_isFrom_14 ?_
    exact g_zret (pc := 15) X hA (rfl) (⟨congrArg (fun z => some (Value.int (iI z))) ((bI_f (by omega)).symm), rfl⟩) (by decide) (by decide) dX11_isFrom_15
  · refine g_iload_n (pc := 5) X 1 rfl dX11_isFrom_5 ?_
    refine g_iload_n (pc := 6) X 2 rfl dX11_isFrom_6 ?_
    refine g_icmp_gtI (pc := 7) X 14 (by decide) b_v b_b dX11_isFrom_7 (fun c7 => ?_) (fun c7 => ?_)
    · refine g_iconst (pc := 14) X (iI 0) (by rfl) dX11_isFrom_14 ?_
      exact g_zret (pc := 15) X hA (rfl) (⟨congrArg (fun z => some (Value.int (iI z))) ((bI_f (by omega)).symm), rfl⟩) (by decide) (by decide) dX11_isFrom_15
    · refine g_iconst (pc := 10) X (iI 1) (by rfl) dX11_isFrom_10 ?_
      refine g_goto (pc := 11) X 15 (by decide) dX11_isFrom_11 ?_
      exact g_zret (pc := 15) X hA (rfl) (⟨congrArg (fun z => some (Value.int (iI z))) ((bI_t (by omega)).symm), rfl⟩) (by decide) (by decide) dX11_isFrom_15

set_option maxHeartbeats 4000000 in
set_option maxRecDepth 100000 in
theorem k_X11_rest (l : Launch) (Z : gZ) (v : Int) (d : Int) (b_v : (-2147483648) ≤ v ∧ v ≤ 2147483647) (b_d : (-2147483648) ≤ d ∧ d ≤ 2147483647) : Con l Z yX11_rest cX11_rest 3 (some .int) 0 0 0 0 [.int (iI v), .int (iI d)] [] (fun r w' => ∃ (y : Int), (r = some (.int (iI y))) ∧ (w' = []) ∧ ((-2147483648) ≤ y ∧ y ≤ 2147483647) ∧ (d ≤ 0 → y = 0) ∧ (0 < d → y = v % d) ∧ (0 ≤ y) ∧ (0 < d → y < d)) := by
  refine enter (by decide) (Nat.le_of_ble_eq_true rfl) ?_
  intro p e s m args below meth c A X hnm hA
  have X : Cx p s m args meth c cX11_rest 3 (some .int) RX11 Z A := X
  refine g_as (pc' := 0) (lv' := [(0, .int (iI v)), (1, .int (iI d))]) (st' := []) (ws' := []) rfl rfl rfl rfl ?_
  refine g_iload_n (pc := 0) X 1 rfl dX11_rest_0 ?_
  refine g_if_gtI (pc := 1) X 6 (by decide) b_d dX11_rest_1 (fun c1 => ?_) (fun c1 => ?_)
  · refine g_iload_n (pc := 6) X 0 rfl dX11_rest_6 ?_
    refine g_iload_n (pc := 7) X 1 rfl dX11_rest_7 ?_
    refine g_iremI (pc := 8) X b_v b_d (by omega) (by omega) dX11_rest_8 ?_
    refine g_nameI (fun y1 ey1 => ?_)
    have by1 : -d < y1 ∧ y1 < d := by rw [ey1]; exact tmodB (by omega)
    refine g_istore_n (pc := 9) X (i := 2) rfl (by decide) (lv' := [(2, .int (iI y1)), (0, .int (iI v)), (1, .int (iI d))]) rfl dX11_rest_9 ?_
    refine g_iload_n (pc := 10) X 0 rfl dX11_rest_10 ?_
    refine g_if_geI (pc := 11) X 20 (by decide) ⟨by omega, by omega⟩ dX11_rest_11 (fun c11 => ?_) (fun c11 => ?_)
    · refine g_iload_n (pc := 20) X 0 rfl dX11_rest_20 ?_
      exact g_iret (pc := 21) X hA (⟨y1, rfl, rfl, (by omega), (by omega), (fun hd => by rw [ey1] at *; exact rest_p hd (by omega)), (by omega), (by omega)⟩) (by decide) (by decide) dX11_rest_21
    · refine g_iload_n (pc := 14) X 0 rfl dX11_rest_14 ?_
      refine g_iload_n (pc := 15) X 2 rfl dX11_rest_15 ?_
      refine g_iaddI (pc := 16) X dX11_rest_16 ?_
      refine g_goto (pc := 17) X 21 (by decide) dX11_rest_17 ?_
      exact g_iret (pc := 21) X hA (⟨(y1 + d), rfl, rfl, (by omega), (by omega), (fun hd => by rw [ey1] at *; exact rest_n hd (by omega)), (by omega), (by omega)⟩) (by decide) (by decide) dX11_rest_21
  · refine g_iconst (pc := 4) X (iI 0) (by rfl) dX11_rest_4 ?_
    exact g_iret (pc := 5) X hA (⟨0, rfl, rfl, (by omega), (by omega), (by omega), (by omega), (by omega)⟩) (by decide) (by decide) dX11_rest_5

set_option maxHeartbeats 4000000 in
set_option maxRecDepth 100000 in
theorem k_X11_cutUp (l : Launch) (Z : gZ) (v : Int) (d : Int) (b_v : 0 ≤ v ∧ v ≤ 100000) (b_d : 0 ≤ d ∧ d ≤ 100000) : Con l Z yX11_cutUp cX11_cutUp 2 (some .int) 0 0 0 0 [.int (iI v), .int (iI d)] [] (fun r w' => ∃ (y : Int), (r = some (.int (iI y))) ∧ (w' = []) ∧ (0 ≤ y ∧ y ≤ 200000) ∧ (0 < d → y = (v + d - 1) / d) ∧ (d ≤ 0 → y = 0)) := by
  refine enter (by decide) (Nat.le_of_ble_eq_true rfl) ?_
  intro p e s m args below meth c A X hnm hA
  have X : Cx p s m args meth c cX11_cutUp 2 (some .int) RX11 Z A := X
  refine g_as (pc' := 0) (lv' := [(0, .int (iI v)), (1, .int (iI d))]) (st' := []) (ws' := []) rfl rfl rfl rfl ?_
  refine g_iload_n (pc := 0) X 1 rfl dX11_cutUp_0 ?_
  refine g_if_gtI (pc := 1) X 8 (by decide) (inRb b_d (by decide) (by decide)) dX11_cutUp_1 (fun c1 => ?_) (fun c1 => ?_)
  · refine g_iload_n (pc := 8) X 0 rfl dX11_cutUp_8 ?_
    refine g_iload_n (pc := 9) X 1 rfl dX11_cutUp_9 ?_
    refine g_iaddI (pc := 10) X dX11_cutUp_10 ?_
    refine g_iconst (pc := 11) X (iI 1) (by rfl) dX11_cutUp_11 ?_
    refine g_isubI (pc := 12) X dX11_cutUp_12 ?_
    refine g_iload_n (pc := 13) X 1 rfl dX11_cutUp_13 ?_
    refine g_idivP (pc := 14) X (by omega) (by omega) (by omega) (by omega) dX11_cutUp_14 ?_
    refine g_nameI (fun y1 ey1 => ?_)
    have by1 : 0 ≤ y1 ∧ y1 ≤ 199999 := by rw [ey1]; exact divB (by omega) (by omega) (by omega)
    exact g_iret (pc := 15) X hA (⟨y1, rfl, rfl, (by omega), (by omega), (by omega)⟩) (by decide) (by decide) dX11_cutUp_15
  · refine g_iconst (pc := 4) X (iI 0) (by rfl) dX11_cutUp_4 ?_
    refine g_goto (pc := 5) X 15 (by decide) dX11_cutUp_5 ?_
    exact g_iret (pc := 15) X hA (⟨0, rfl, rfl, (by omega), (by omega), (by omega)⟩) (by decide) (by decide) dX11_cutUp_15
