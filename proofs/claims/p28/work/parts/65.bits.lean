set_option maxHeartbeats 4000000 in
set_option maxRecDepth 100000 in
theorem k_J9_floorMod_7cf53 (l : Launch) (Z : gZ) (v : Int) (d : Int) (b_v : (-2147483648) ≤ v ∧ v ≤ 2147483647) (b_d : 1 ≤ d ∧ d ≤ 2147483647) : Con l Z yJ9_floorMod_7cf53 cJ9_floorMod_7cf53 3 (some .int) 0 0 0 0 [.int (iI v), .int (iI d)] [] (fun r w' => ∃ (y : Int), (r = some (.int (iI y))) ∧ (w' = []) ∧ ((-2147483648) ≤ y ∧ y ≤ 2147483647)) := by
  refine enterF (by decide +kernel) (Nat.le_of_ble_eq_true rfl) ?_
  intro p e s m args below meth c A X hnm hA
  have X : Cx p s m args meth c cJ9_floorMod_7cf53 3 (some .int) RJ9 Z A := X
  refine g_as (pc' := 0) (lv' := [(0, .int (iI v)), (1, .int (iI d))]) (st' := []) (ws' := []) rfl rfl rfl rfl ?_
  refine g_iload_n (pc := 0) X 0 rfl dJ9_floorMod_7cf53_0 ?_
  refine g_iload_n (pc := 1) X 1 rfl dJ9_floorMod_7cf53_1 ?_
  refine g_iremI (pc := 2) X b_v (inRb b_d (by decide) (by decide)) (by omega) (by omega) dJ9_floorMod_7cf53_2 ?_
  refine g_any (fun y1 by1 => ?_)
  refine g_istore_n (pc := 3) X (i := 2) rfl (by decide) (lv' := [(2, .int (iI y1)), (0, .int (iI v)), (1, .int (iI d))]) rfl dJ9_floorMod_7cf53_3 ?_
  refine g_iload_n (pc := 4) X 1 rfl dJ9_floorMod_7cf53_4 ?_
  refine g_iload_n (pc := 5) X 2 rfl dJ9_floorMod_7cf53_5 ?_
  refine g_ixor (pc := 6) X dJ9_floorMod_7cf53_6 ?_
  refine g_any (fun y2 by2 => ?_)
  refine g_if_geI (pc := 7) X 18 (by decide) by2 dJ9_floorMod_7cf53_7 (fun c7 => ?_) (fun c7 => ?_)
  · refine g_iload_n (pc := 18) X 0 rfl dJ9_floorMod_7cf53_18 ?_
    exact g_iret (pc := 19) X hA (⟨y1, rfl, rfl, (by1)⟩) (by decide) (by decide) dJ9_floorMod_7cf53_19
  · refine g_iload_n (pc := 10) X 0 rfl dJ9_floorMod_7cf53_10 ?_
    refine g_if_eqI (pc := 11) X 18 (by decide) by1 dJ9_floorMod_7cf53_11 (fun c11 => ?_) (fun c11 => ?_)
    · refine g_iload_n (pc := 18) X 0 rfl dJ9_floorMod_7cf53_18 ?_
      exact g_iret (pc := 19) X hA (⟨y1, rfl, rfl, (by1)⟩) (by decide) (by decide) dJ9_floorMod_7cf53_19
    · refine g_iload_n (pc := 14) X 0 rfl dJ9_floorMod_7cf53_14 ?_
      refine g_iload_n (pc := 15) X 2 rfl dJ9_floorMod_7cf53_15 ?_
      refine g_iaddI (pc := 16) X dJ9_floorMod_7cf53_16 ?_
      refine g_any (fun y3 by3 => ?_)
      exact g_iret (pc := 17) X hA (⟨y3, rfl, rfl, (by3)⟩) (by decide) (by decide) dJ9_floorMod_7cf53_17
