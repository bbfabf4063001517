set_option maxHeartbeats 4000000 in
set_option maxRecDepth 100000 in
theorem k_J6_bitCount_0f7a4 (l : Launch) (Z : gZ) (v : Int) (b_v : (-2147483648) ≤ v ∧ v ≤ 2147483647) : Con l Z yJ6_bitCount_0f7a4 cJ6_bitCount_0f7a4 1 (some .int) 0 0 0 0 [.int (iI v)] [] (fun r w' => ∃ (y : Int), (r = some (.int (iI y))) ∧ (w' = []) ∧ (0 ≤ y ∧ y ≤ 63)) := by
  refine enterF (by decide +kernel) (Nat.le_of_ble_eq_true rfl) ?_
  intro p e s m args below meth c A X hnm hA
  have X : Cx p s m args meth c cJ6_bitCount_0f7a4 1 (some .int) RJ6 Z A := X
  refine g_as (pc' := 0) (lv' := [(0, .int (iI v))]) (st' := []) (ws' := []) rfl rfl rfl rfl ?_
  refine g_iload_n (pc := 0) X 0 rfl dJ6_bitCount_0f7a4_0 ?_
  refine g_iload_n (pc := 1) X 0 rfl dJ6_bitCount_0f7a4_1 ?_
  refine g_iconst (pc := 2) X (iI 1) (by rfl) dJ6_bitCount_0f7a4_2 ?_
  refine g_iushr (pc := 3) X dJ6_bitCount_0f7a4_3 ?_
  refine g_any (fun y1 by1 => ?_)
  refine g_ldcw (pc := 4) X mw_41_20 dJ6_bitCount_0f7a4_4 ?_
  refine g_lit (y := iI 1431655765) (by decide) ?_
  refine g_iand (pc := 7) X dJ6_bitCount_0f7a4_7 ?_
  refine g_any (fun y2 by2 => ?_)
  refine g_isubI (pc := 8) X dJ6_bitCount_0f7a4_8 ?_
  refine g_any (fun y3 by3 => ?_)
  refine g_istore_n (pc := 9) X (i := 0) rfl (by decide) (lv' := [(0, .int (iI y3))]) rfl dJ6_bitCount_0f7a4_9 ?_
  refine g_iload_n (pc := 10) X 0 rfl dJ6_bitCount_0f7a4_10 ?_
  refine g_ldcw (pc := 11) X mw_41_21 dJ6_bitCount_0f7a4_11 ?_
  refine g_lit (y := iI 858993459) (by decide) ?_
  refine g_iand (pc := 14) X dJ6_bitCount_0f7a4_14 ?_
  refine g_any (fun y4 by4 => ?_)
  refine g_iload_n (pc := 15) X 0 rfl dJ6_bitCount_0f7a4_15 ?_
  refine g_iconst (pc := 16) X (iI 2) (by rfl) dJ6_bitCount_0f7a4_16 ?_
  refine g_iushr (pc := 17) X dJ6_bitCount_0f7a4_17 ?_
  refine g_any (fun y5 by5 => ?_)
  refine g_ldcw (pc := 18) X mw_41_21 dJ6_bitCount_0f7a4_18 ?_
  refine g_lit (y := iI 858993459) (by decide) ?_
  refine g_iand (pc := 21) X dJ6_bitCount_0f7a4_21 ?_
  refine g_any (fun y6 by6 => ?_)
  refine g_iaddI (pc := 22) X dJ6_bitCount_0f7a4_22 ?_
  refine g_any (fun y7 by7 => ?_)
  refine g_istore_n (pc := 23) X (i := 0) rfl (by decide) (lv' := [(0, .int (iI y7))]) rfl dJ6_bitCount_0f7a4_23 ?_
  refine g_iload_n (pc := 24) X 0 rfl dJ6_bitCount_0f7a4_24 ?_
  refine g_iload_n (pc := 25) X 0 rfl dJ6_bitCount_0f7a4_25 ?_
  refine g_iconst (pc := 26) X (iI 4) (by rfl) dJ6_bitCount_0f7a4_26 ?_
  refine g_iushr (pc := 27) X dJ6_bitCount_0f7a4_27 ?_
  refine g_any (fun y8 by8 => ?_)
  refine g_iaddI (pc := 28) X dJ6_bitCount_0f7a4_28 ?_
  refine g_any (fun y9 by9 => ?_)
  refine g_ldcw (pc := 29) X mw_41_22 dJ6_bitCount_0f7a4_29 ?_
  refine g_lit (y := iI 252645135) (by decide) ?_
  refine g_iand (pc := 32) X dJ6_bitCount_0f7a4_32 ?_
  refine g_any (fun y10 by10 => ?_)
  refine g_istore_n (pc := 33) X (i := 0) rfl (by decide) (lv' := [(0, .int (iI y10))]) rfl dJ6_bitCount_0f7a4_33 ?_
  refine g_iload_n (pc := 34) X 0 rfl dJ6_bitCount_0f7a4_34 ?_
  refine g_iload_n (pc := 35) X 0 rfl dJ6_bitCount_0f7a4_35 ?_
  refine g_bipush (pc := 36) X (iI 8) (by decide) dJ6_bitCount_0f7a4_36 ?_
  refine g_iushr (pc := 38) X dJ6_bitCount_0f7a4_38 ?_
  refine g_any (fun y11 by11 => ?_)
  refine g_iaddI (pc := 39) X dJ6_bitCount_0f7a4_39 ?_
  refine g_any (fun y12 by12 => ?_)
  refine g_istore_n (pc := 40) X (i := 0) rfl (by decide) (lv' := [(0, .int (iI y12))]) rfl dJ6_bitCount_0f7a4_40 ?_
  refine g_iload_n (pc := 41) X 0 rfl dJ6_bitCount_0f7a4_41 ?_
  refine g_iload_n (pc := 42) X 0 rfl dJ6_bitCount_0f7a4_42 ?_
  refine g_bipush (pc := 43) X (iI 16) (by decide) dJ6_bitCount_0f7a4_43 ?_
  refine g_iushr (pc := 45) X dJ6_bitCount_0f7a4_45 ?_
  refine g_any (fun y13 by13 => ?_)
  refine g_iaddI (pc := 46) X dJ6_bitCount_0f7a4_46 ?_
  refine g_any (fun y14 by14 => ?_)
  refine g_istore_n (pc := 47) X (i := 0) rfl (by decide) (lv' := [(0, .int (iI y14))]) rfl dJ6_bitCount_0f7a4_47 ?_
  refine g_iload_n (pc := 48) X 0 rfl dJ6_bitCount_0f7a4_48 ?_
  refine g_bipush (pc := 49) X (iI 63) (by decide) dJ6_bitCount_0f7a4_49 ?_
  refine g_iandM (pc := 51) X 6 (by decide) (by decide) (by decide) dJ6_bitCount_0f7a4_51 (fun y15 by15 => ?_)
  exact g_iret (pc := 52) X hA (⟨y15, rfl, rfl, (by15)⟩) (by decide) (by decide) dJ6_bitCount_0f7a4_52

set_option maxHeartbeats 4000000 in
set_option maxRecDepth 100000 in
theorem k_J9_floorMod_7cf53 (l : Launch) (Z : gZ) (v : Int) (d : Int) (b_v : (-2147483648) ≤ v ∧ v ≤ 2147483647) (b_d : 1 ≤ d ∧ d ≤ 2147483647) : Con l Z yJ9_floorMod_7cf53 cJ9_floorMod_7cf53 3 (some .int) 0 0 0 0 [.int (iI v), .int (iI d)] [] (fun r w' => ∃ (y : Int), (r = some (.int (iI y))) ∧ (w' = []) ∧ ((-2147483648) ≤ y ∧ y ≤ 2147483647)) := by
  refine enterF (by decide +kernel) (Nat.le_of_ble_eq_true rfl) ?_
  intro p e s m args below meth c A X hnm hA
  have X : Cx p s m args meth c cJ9_floorMod_7cf53 3 (some .int) RJ9 Z A := X
  refine g_as (pc' := 0) (lv' := [(0, .int (iI v)), (1, .int (iI d))]) (st' := []) (ws' := []) rfl rfl rfl rfl ?_
  refine g_iload_n (pc := 0) X 0 rfl dJ9_floorMod_7cf53_0 ?_
  refine g_iload_n (pc := 1) X 1 rfl dJ9_floorMod_7cf53_1 ?_
  refine g_iremI (pc := 2) X b_v (inRb b_d (by decide) (by decide)) (by omega) (by omega) dJ9_floorMod_7cf53_2 ?_
  refine g_any (fun y1 by1 => ?_)
  refine g_istore_n (pc := 3) X (i := 2) rfl (by decide) (lv' := [(2, .int (iI y1)), (0, .int (iI v)), (1, .int (iI d))]) rfl dJ9_floorMod_7cf53_3 ?_
  refine g_iload_n (pc := 4) X 1 rfl dJ9_floorMod_7cf53_4 ?_
  refine g_iload_n (pc := 5) X 2 rfl dJ9_floorMod_7cf53_5 ?_
  refine g_ixor (pc := 6) X dJ9_floorMod_7cf53_6 ?_
  refine g_any (fun y2 by2 => ?_)
  refine g_if_geI (pc := 7) X 18 (by decide) by2 dJ9_floorMod_7cf53_7 (fun c7 => ?_) (fun c7 => ?_)
  · refine g_iload_n (pc := 18) X 0 rfl dJ9_floorMod_7cf53_18 ?_
    exact g_iret (pc := 19) X hA (⟨y1, rfl, rfl, (by1)⟩) (by decide) (by decide) dJ9_floorMod_7cf53_19
  · refine g_iload_n (pc := 10) X 0 rfl dJ9_floorMod_7cf53_10 ?_
    refine g_if_eqI (pc := 11) X 18 (by decide) by1 dJ9_floorMod_7cf53_11 (fun c11 => ?_) (fun c11 => ?_)
    · refine g_iload_n (pc := 18) X 0 rfl dJ9_floorMod_7cf53_18 ?_
      exact g_iret (pc := 19) X hA (⟨y1, rfl, rfl, (by1)⟩) (by decide) (by decide) dJ9_floorMod_7cf53_19
    · refine g_iload_n (pc := 14) X 0 rfl dJ9_floorMod_7cf53_14 ?_
      refine g_iload_n (pc := 15) X 2 rfl dJ9_floorMod_7cf53_15 ?_
      refine g_iaddI (pc := 16) X dJ9_floorMod_7cf53_16 ?_
      refine g_any (fun y3 by3 => ?_)
      exact g_iret (pc := 17) X hA (⟨y3, rfl, rfl, (by3)⟩) (by decide) (by decide) dJ9_floorMod_7cf53_17
