set_option maxHeartbeats 4000000 in
set_option maxRecDepth 100000 in
theorem k_X0_begin (l : Launch) (Z : gZ) (y0 : Nat) (y_hf : Nat) (Df : Nat → Int) (ha : Int) (ti : Int) (lz : Int) (dh : Int) (ds : Int) (db : Int) (dl : Int) (dp : Int) (dq : Int) (b_ha : (-2147483648) ≤ ha ∧ ha ≤ 2147483647) (b_ti : (-2147483648) ≤ ti ∧ ti ≤ 2147483647) (b_lz : (-2147483648) ≤ lz ∧ lz ≤ 2147483647) (b_dh : (-2147483648) ≤ dh ∧ dh ≤ 2147483647) (b_ds : (-2147483648) ≤ ds ∧ ds ≤ 2147483647) (b_db : (-2147483648) ≤ db ∧ db ≤ 2147483647) (b_dl : 0 ≤ dl ∧ dl ≤ 1) (b_dp : (-2147483648) ≤ dp ∧ dp ≤ 2147483647) (b_dq : (-2147483648) ≤ dq ∧ dq ≤ 2147483647) (h_Df : ∀ j, j < 2 → (-2147483648) ≤ Df j ∧ Df j ≤ 2147483647) : Con l Z yX0_begin cX0_begin 5 (some .boolean) 1 22 0 0 [.ref y0, .int (iI ha), .int (iI ti), .int (iI lz)] [cO_iiiiiri y0 0 dh ds db dl dp y_hf dq, cA Z y_hf 0 2 Df] (fun r w' => ∃ (Df2 : Nat → Int) (dh2 : Int) (ds2 : Int) (db2 : Int) (dl2 : Int) (dp2 : Int) (dq2 : Int) (y : Int), (r = some (.int (iI y))) ∧ (w' = [cO_iiiiiri y0 0 dh2 ds2 db2 dl2 dp2 y_hf dq2, cA Z y_hf 0 2 Df2]) ∧ ((-2147483648) ≤ dh2 ∧ dh2 ≤ 2147483647) ∧ ((-2147483648) ≤ ds2 ∧ ds2 ≤ 2147483647) ∧ ((-2147483648) ≤ db2 ∧ db2 ≤ 2147483647) ∧ (0 ≤ dl2 ∧ dl2 ≤ 1) ∧ ((-2147483648) ≤ dp2 ∧ dp2 ≤ 2147483647) ∧ ((-2147483648) ≤ dq2 ∧ dq2 ≤ 2147483647) ∧ (0 ≤ y ∧ y ≤ 1) ∧ (∀ j, j < 2 → (-2147483648) ≤ Df2 j ∧ Df2 j ≤ 2147483647)) := by
  refine enter (by decide) (Nat.le_of_ble_eq_true rfl) ?_
  intro p e s m args below meth c A X hnm hA
  have X : Cx p s m args meth c cX0_begin 5 (some .boolean) RX0 Z A := X
  refine g_as (pc' := 0) (lv' := [(0, .ref y0), (1, .int (iI ha)), (2, .int (iI ti)), (3, .int (iI lz))]) (st' := []) (ws' := [cO_iiiiiri y0 0 dh ds db dl dp y_hf dq, cA Z y_hf 0 2 Df]) rfl rfl rfl rfl ?_
  refine g_aload_n (pc := 0) X 0 rfl dX0_begin_0 ?_
  refine g_iload_n (pc := 1) X 2 rfl dX0_begin_1 ?_
  refine g_bipush (pc := 2) X (iI 100) (by decide) dX0_begin_2 ?_
  refine g_idivI (pc := 4) X b_ti ⟨by decide, by decide⟩ (by decide) (by decide) dX0_begin_4 ?_
  refine g_any (fun y1 by1 => ?_)
  refine g_put (pc := 5) X inlX0 tyX0_ok nmX0 0 rfl rfl 1 (by decide) mw_54_2 rfl rfl rfl (Nat.le_of_ble_eq_true rfl) (ws' := [cO_iiiiiri y0 0 dh y1 db dl dp y_hf dq, cA Z y_hf 0 2 Df]) rfl dX0_begin_5 ?_
  refine g_aload_n (pc := 8) X 0 rfl dX0_begin_8 ?_
  refine g_iload_n (pc := 9) X 2 rfl dX0_begin_9 ?_
  refine g_bipush (pc := 10) X (iI 100) (by decide) dX0_begin_10 ?_
  refine g_iremI (pc := 12) X b_ti ⟨by decide, by decide⟩ (by decide) (by decide) dX0_begin_12 ?_
  refine g_any (fun y2 by2 => ?_)
  refine g_put (pc := 13) X inlX0 tyX0_ok nmX0 0 rfl rfl 2 (by decide) mw_54_3 rfl rfl rfl (Nat.le_of_ble_eq_true rfl) (ws' := [cO_iiiiiri y0 0 dh y1 y2 dl dp y_hf dq, cA Z y_hf 0 2 Df]) rfl dX0_begin_13 ?_
  refine g_iconst (pc := 16) X (iI 1) (by rfl) dX0_begin_16 ?_
  refine g_aload_n (pc := 17) X 0 rfl dX0_begin_17 ?_
  refine g_get (pc := 18) X inlX0 0 rfl rfl 1 (by decide) mw_54_2 rfl dX0_begin_18 ?_
  refine g_bipush (pc := 21) X (iI 30) (by decide) dX0_begin_21 ?_
  refine g_callSN (pc := 23) X (k_X11_isFrom l Z 1 y1 30 (by decide) by1 (by decide)) iM_X11_isFrom (by decide) mw_11_7 [] [0, 1] rfl (wr := [cO_iiiiiri y0 0 dh y1 y2 dl dp y_hf dq, cA Z y_hf 0 2 Df]) rfl (by decide) rfl rfl (Nat.le_of_ble_eq_true rfl) (by decide) dX0_begin_23 (fun r w' hpo => ?_)
  obtain ⟨rfl, rfl⟩ := hpo
  refine g_as (pc' := 26) (lv' := [(0, .ref y0), (1, .int (iI ha)), (2, .int (iI ti)), (3, .int (iI lz))]) (st' := [.int (iI (bI (1 ≤ y1 ∧ y1 ≤ 30)))]) (ws' := [cO_iiiiiri y0 0 dh y1 y2 dl dp y_hf dq, cA Z y_hf 0 2 Df]) rfl rfl rfl rfl ?_
  refine g_if_eqB (pc := 26) X 42 (by decide) dX0_begin_26 (fun c26 => ?_) (fun c26 => ?_)
  · refine g_iconst (pc := 42) X (iI 0) (by rfl) dX0_begin_42 ?_
    exact g_zret (pc := 43) X hA (rfl) (⟨Df, dh, y1, y2, dl, dp, dq, 0, rfl, rfl, (b_dh), (by1), (by2), (b_dl), (b_dp), (b_dq), (by (first | (clear b_ti b_dh b_ds b_db b_dl b_dp b_dq; omega) | omega)), (h_Df)⟩) (by decide) (by decide) dX0_begin_43
  · refine g_iconst (pc := 29) X (iI 0) (by rfl) dX0_begin_29 ?_
    refine g_aload_n (pc := 30) X 0 rfl dX0_begin_30 ?_
    refine g_get (pc := 31) X inlX0 0 rfl rfl 2 (by decide) mw_54_3 rfl dX0_begin_31 ?_
    refine g_bipush (pc := 34) X (iI 60) (by decide) dX0_begin_34 ?_
    refine g_callSN (pc := 36) X (k_X11_isFrom l Z 0 y2 60 (by decide) by2 (by decide)) iM_X11_isFrom (by decide) mw_11_7 [] [0, 1] rfl (wr := [cO_iiiiiri y0 0 dh y1 y2 dl dp y_hf dq, cA Z y_hf 0 2 Df]) rfl (by decide) rfl rfl (Nat.le_of_ble_eq_true rfl) (by decide) dX0_begin_36 (fun r w' hpo => ?_)
    obtain ⟨rfl, rfl⟩ := hpo
    refine g_as (pc' := 39) (lv' := [(0, .ref y0), (1, .int (iI ha)), (2, .int (iI ti)), (3, .int (iI lz))]) (st' := [.int (iI (bI (0 ≤ y2 ∧ y2 ≤ 60)))]) (ws' := [cO_iiiiiri y0 0 dh y1 y2 dl dp y_hf dq, cA Z y_hf 0 2 Df]) rfl rfl rfl rfl ?_
    refine g_if_neB (pc := 39) X 44 (by decide) dX0_begin_39 (fun c39 => ?_) (fun c39 => ?_)
    · refine g_iconst (pc := 44) X (iI 1) (by rfl) dX0_begin_44 ?_
      refine g_iload_n (pc := 45) X 1 rfl dX0_begin_45 ?_
      refine g_iconst (pc := 46) X (iI 2) (by rfl) dX0_begin_46 ?_
      refine g_callSN (pc := 47) X (k_X11_isFrom l Z 1 ha 2 (by decide) b_ha (by decide)) iM_X11_isFrom (by decide) mw_11_7 [] [0, 1] rfl (wr := [cO_iiiiiri y0 0 dh y1 y2 dl dp y_hf dq, cA Z y_hf 0 2 Df]) rfl (by decide) rfl rfl (Nat.le_of_ble_eq_true rfl) (by decide) dX0_begin_47 (fun r w' hpo => ?_)
      obtain ⟨rfl, rfl⟩ := hpo
      refine g_as (pc' := 50) (lv' := [(0, .ref y0), (1, .int (iI ha)), (2, .int (iI ti)), (3, .int (iI lz))]) (st' := [.int (iI (bI (1 ≤ ha ∧ ha ≤ 2)))]) (ws' := [cO_iiiiiri y0 0 dh y1 y2 dl dp y_hf dq, cA Z y_hf 0 2 Df]) rfl rfl rfl rfl ?_
      refine g_if_eqB (pc := 50) X 62 (by decide) dX0_begin_50 (fun c50 => ?_) (fun c50 => ?_)
      · refine g_iconst (pc := 62) X (iI 0) (by rfl) dX0_begin_62 ?_
        exact g_zret (pc := 63) X hA (rfl) (⟨Df, dh, y1, y2, dl, dp, dq, 0, rfl, rfl, (b_dh), (by1), (by2), (b_dl), (b_dp), (b_dq), (by (first | (clear b_ti b_dh b_ds b_db b_dl b_dp b_dq; omega) | omega)), (h_Df)⟩) (by decide) (by decide) dX0_begin_63
      · refine g_iconst (pc := 53) X (iI 0) (by rfl) dX0_begin_53 ?_
        refine g_iload_n (pc := 54) X 3 rfl dX0_begin_54 ?_
        refine g_iconst (pc := 55) X (iI 1) (by rfl) dX0_begin_55 ?_
        refine g_callSN (pc := 56) X (k_X11_isFrom l Z 0 lz 1 (by decide) b_lz (by decide)) iM_X11_isFrom (by decide) mw_11_7 [] [0, 1] rfl (wr := [cO_iiiiiri y0 0 dh y1 y2 dl dp y_hf dq, cA Z y_hf 0 2 Df]) rfl (by decide) rfl rfl (Nat.le_of_ble_eq_true rfl) (by decide) dX0_begin_56 (fun r w' hpo => ?_)
        obtain ⟨rfl, rfl⟩ := hpo
        refine g_as (pc' := 59) (lv' := [(0, .ref y0), (1, .int (iI ha)), (2, .int (iI ti)), (3, .int (iI lz))]) (st' := [.int (iI (bI (0 ≤ lz ∧ lz ≤ 1)))]) (ws' := [cO_iiiiiri y0 0 dh y1 y2 dl dp y_hf dq, cA Z y_hf 0 2 Df]) rfl rfl rfl rfl ?_
        refine g_if_neB (pc := 59) X 64 (by decide) dX0_begin_59 (fun c59 => ?_) (fun c59 => ?_)
        · refine g_aload_n (pc := 64) X 0 rfl dX0_begin_64 ?_
          refine g_iload_n (pc := 65) X 1 rfl dX0_begin_65 ?_
          refine g_put (pc := 66) X inlX0 tyX0_ok nmX0 0 rfl rfl 0 (by decide) mw_54_4 rfl rfl rfl (Nat.le_of_ble_eq_true rfl) (ws' := [cO_iiiiiri y0 0 ha y1 y2 dl dp y_hf dq, cA Z y_hf 0 2 Df]) rfl dX0_begin_66 ?_
          refine g_aload_n (pc := 69) X 0 rfl dX0_begin_69 ?_
          refine g_iload_n (pc := 70) X 3 rfl dX0_begin_70 ?_
          refine g_iconst (pc := 71) X (iI 1) (by rfl) dX0_begin_71 ?_
          refine g_icmp_neI (pc := 72) X 79 (by decide) b_lz ⟨by decide, by decide⟩ dX0_begin_72 (fun c72 => ?_) (fun c72 => ?_)
          · refine g_iconst (pc := 79) X (iI 0) (by rfl) dX0_begin_79 ?_
            refine g_put (pc := 80) X inlX0 tyX0_ok nmX0 0 rfl rfl 3 (by decide) mw_54_5 rfl rfl rfl (Nat.le_of_ble_eq_true rfl) (ws' := [cO_iiiiiri y0 0 ha y1 y2 0 dp y_hf dq, cA Z y_hf 0 2 Df]) rfl dX0_begin_80 ?_
            refine g_aload_n (pc := 83) X 0 rfl dX0_begin_83 ?_
            refine g_iconst (pc := 84) X (iI 0) (by rfl) dX0_begin_84 ?_
            refine g_put (pc := 85) X inlX0 tyX0_ok nmX0 0 rfl rfl 4 (by decide) mw_54_6 rfl rfl rfl (Nat.le_of_ble_eq_true rfl) (ws' := [cO_iiiiiri y0 0 ha y1 y2 0 0 y_hf dq, cA Z y_hf 0 2 Df]) rfl dX0_begin_85 ?_
            refine g_aload_n (pc := 88) X 0 rfl dX0_begin_88 ?_
            refine g_iconst (pc := 89) X (iI 0) (by rfl) dX0_begin_89 ?_
            refine g_put (pc := 90) X inlX0 tyX0_ok nmX0 0 rfl rfl 6 (by decide) mw_54_7 rfl rfl rfl (Nat.le_of_ble_eq_true rfl) (ws' := [cO_iiiiiri y0 0 ha y1 y2 0 0 y_hf 0, cA Z y_hf 0 2 Df]) rfl dX0_begin_90 ?_
            refine g_iconst (pc := 93) X (iI 0) (by rfl) dX0_begin_93 ?_
            refine g_istore (pc := 94) X (by decide) (lv' := [(4, .int (iI 0)), (0, .ref y0), (1, .int (iI ha)), (2, .int (iI ti)), (3, .int (iI lz))]) rfl dX0_begin_94 ?_
            have loop96 : ∀ (fuel : Nat) (i : Int) (Df1 : Nat → Int), (0 ≤ i ∧ i ≤ 2) → (∀ j, j < 2 → (-2147483648) ≤ Df1 j ∧ Df1 j ≤ 2147483647) → (3 - i).toNat < fuel → Gs p l e ({ frames := 1, cells := 0, slots := 0, locals := 22 } : Room) s m args below meth c (MQ below (gPost Z [cO_iiiiiri y0 0 dh ds db dl dp y_hf dq, cA Z y_hf 0 2 Df] s.heap.size (fun r w' => ∃ (Df2 : Nat → Int) (dh2 : Int) (ds2 : Int) (db2 : Int) (dl2 : Int) (dp2 : Int) (dq2 : Int) (y : Int), (r = some (.int (iI y))) ∧ (w' = [cO_iiiiiri y0 0 dh2 ds2 db2 dl2 dp2 y_hf dq2, cA Z y_hf 0 2 Df2]) ∧ ((-2147483648) ≤ dh2 ∧ dh2 ≤ 2147483647) ∧ ((-2147483648) ≤ ds2 ∧ ds2 ≤ 2147483647) ∧ ((-2147483648) ≤ db2 ∧ db2 ≤ 2147483647) ∧ (0 ≤ dl2 ∧ dl2 ≤ 1) ∧ ((-2147483648) ≤ dp2 ∧ dp2 ≤ 2147483647) ∧ ((-2147483648) ≤ dq2 ∧ dq2 ≤ 2147483647) ∧ (0 ≤ y ∧ y ≤ 1) ∧ (∀ j, j < 2 → (-2147483648) ≤ Df2 j ∧ Df2 j ≤ 2147483647))) args s 0 0 (va_A [cO_iiiiiri y0 0 dh ds db dl dp y_hf dq, cA Z y_hf 0 2 Df] s.heap.size)) Z A 5 0 0 96 [(4, .int (iI i)), (0, .ref y0), (1, .int (iI ha)), (2, .int (iI ti)), (3, .int (iI lz))] [] [cO_iiiiiri y0 0 ha y1 y2 0 0 y_hf 0, cA Z y_hf 0 2 Df1] := by
              intro fuel
              induction fuel with
              | zero => intro i Df1 _ _ hm; exact absurd hm (Nat.not_lt_zero _)
              | succ fuel ih =>
                intro i Df1 b_i h_Df1 hm
                refine g_iload (pc := 96) X 0 rfl dX0_begin_96 ?_
                refine g_iconst (pc := 98) X (iI 2) (by rfl) dX0_begin_98 ?_
                refine g_icmp_geI (pc := 99) X 116 (by decide) (inRb b_i (by decide) (by decide)) ⟨by decide, by decide⟩ dX0_begin_99 (fun c99 => ?_) (fun c99 => ?_)
                · refine g_iconst (pc := 116) X (iI 1) (by rfl) dX0_begin_116 ?_
                  exact g_zret (pc := 117) X hA (rfl) (⟨Df1, ha, y1, y2, 0, 0, 0, 1, rfl, rfl, (b_ha), (by1), (by2), (by (first | (clear b_ti b_dh b_ds b_db b_dl b_dp b_dq; omega) | omega)), (by (first | (clear b_ti b_dh b_ds b_db b_dl b_dp b_dq; omega) | omega)), (by (first | (clear b_ti b_dh b_ds b_db b_dl b_dp b_dq; omega) | omega)), (by (first | (clear b_ti b_dh b_ds b_db b_dl b_dp b_dq; omega) | omega)), (h_Df1)⟩) (by decide) (by decide) dX0_begin_117
                · refine g_aload_n (pc := 102) X 1 rfl dX0_begin_102 ?_
                  refine g_get (pc := 103) X inlX0 0 rfl rfl 5 (by decide) mw_6_3 rfl dX0_begin_103 ?_
                  refine g_iload (pc := 106) X 0 rfl dX0_begin_106 ?_
                  refine g_iconst (pc := 108) X (iI 0) (by rfl) dX0_begin_108 ?_
                  refine g_iastG (pc := 109) X 1 rfl (b_i.1) (by (first | (clear b_ti b_dh b_ds b_db b_dl b_dp b_dq; omega) | omega)) (Int.le_trans b_i.2 (by decide)) (ws' := fun F7 => [cO_iiiiiri y0 0 ha y1 y2 0 0 y_hf 0, cA Z y_hf 0 2 F7]) (fun _ => rfl) dX0_begin_109 (fun F7 eF7 => ?_)
                  have hF7 : ∀ j, j < 2 → (-2147483648) ≤ F7 j ∧ F7 j ≤ 2147483647 := by rw [eF7]; exact updI_B h_Df1 (by (first | (clear b_ti b_dh b_ds b_db b_dl b_dp b_dq; omega) | omega))
                  refine g_iincI (pc := 110) X 0 rfl (by decide) (lv' := [(4, .int (iI (i + 1))), (0, .ref y0), (1, .int (iI ha)), (2, .int (iI ti)), (3, .int (iI lz))]) rfl dX0_begin_110 ?_
                  refine g_goto (pc := 113) X 96 (by decide) dX0_begin_113 ?_
                  exact ih (i + 1) F7 (by (first | (clear b_ti b_dh b_ds b_db b_dl b_dp b_dq; omega) | omega)) (hF7) (by (first | (clear b_ti b_dh b_ds b_db b_dl b_dp b_dq; omega) | omega))
            exact loop96 _ 0 Df (by (first | (clear b_ti b_dh b_ds b_db b_dl b_dp b_dq; omega) | omega)) (h_Df) (Nat.lt_succ_self _)
          · refine g_iconst (pc := 75) X (iI 1) (by rfl) dX0_begin_75 ?_
            refine g_goto (pc := 76) X 80 (by decide) dX0_begin_76 ?_
            refine g_put (pc := 80) X inlX0 tyX0_ok nmX0 0 rfl rfl 3 (by decide) mw_54_5 rfl rfl rfl (Nat.le_of_ble_eq_true rfl) (ws' := [cO_iiiiiri y0 0 ha y1 y2 1 dp y_hf dq, cA Z y_hf 0 2 Df]) rfl dX0_begin_80 ?_
            refine g_aload_n (pc := 83) X 0 rfl dX0_begin_83 ?_
            refine g_iconst (pc := 84) X (iI 0) (by rfl) dX0_begin_84 ?_
            refine g_put (pc := 85) X inlX0 tyX0_ok nmX0 0 rfl rfl 4 (by decide) mw_54_6 rfl rfl rfl (Nat.le_of_ble_eq_true rfl) (ws' := [cO_iiiiiri y0 0 ha y1 y2 1 0 y_hf dq, cA Z y_hf 0 2 Df]) rfl dX0_begin_85 ?_
            refine g_aload_n (pc := 88) X 0 rfl dX0_begin_88 ?_
            refine g_iconst (pc := 89) X (iI 0) (by rfl) dX0_begin_89 ?_
            refine g_put (pc := 90) X inlX0 tyX0_ok nmX0 0 rfl rfl 6 (by decide) mw_54_7 rfl rfl rfl (Nat.le_of_ble_eq_true rfl) (ws' := [cO_iiiiiri y0 0 ha y1 y2 1 0 y_hf 0, cA Z y_hf 0 2 Df]) rfl dX0_begin_90 ?_
            refine g_iconst (pc := 93) X (iI 0) (by rfl) dX0_begin_93 ?_
            refine g_istore (pc := 94) X (by decide) (lv' := [(4, .int (iI 0)), (0, .ref y0), (1, .int (iI ha)), (2, .int (iI ti)), (3, .int (iI lz))]) rfl dX0_begin_94 ?_
            have loop96 : ∀ (fuel : Nat) (i : Int) (Df1 : Nat → Int), (0 ≤ i ∧ i ≤ 2) → (∀ j, j < 2 → (-2147483648) ≤ Df1 j ∧ Df1 j ≤ 2147483647) → (3 - i).toNat < fuel → Gs p l e ({ frames := 1, cells := 0, slots := 0, locals := 22 } : Room) s m args below meth c (MQ below (gPost Z [cO_iiiiiri y0 0 dh ds db dl dp y_hf dq, cA Z y_hf 0 2 Df] s.heap.size (fun r w' => ∃ (Df2 : Nat → Int) (dh2 : Int) (ds2 : Int) (db2 : Int) (dl2 : Int) (dp2 : Int) (dq2 : Int) (y : Int), (r = some (.int (iI y))) ∧ (w' = [cO_iiiiiri y0 0 dh2 ds2 db2 dl2 dp2 y_hf dq2, cA Z y_hf 0 2 Df2]) ∧ ((-2147483648) ≤ dh2 ∧ dh2 ≤ 2147483647) ∧ ((-2147483648) ≤ ds2 ∧ ds2 ≤ 2147483647) ∧ ((-2147483648) ≤ db2 ∧ db2 ≤ 2147483647) ∧ (0 ≤ dl2 ∧ dl2 ≤ 1) ∧ ((-2147483648) ≤ dp2 ∧ dp2 ≤ 2147483647) ∧ ((-2147483648) ≤ dq2 ∧ dq2 ≤ 2147483647) ∧ (0 ≤ y ∧ y ≤ 1) ∧ (∀ j, j < 2 → (-2147483648) ≤ Df2 j ∧ Df2 j ≤ 2147483647))) args s 0 0 (va_A [cO_iiiiiri y0 0 dh ds db dl dp y_hf dq, cA Z y_hf 0 2 Df] s.heap.size)) Z A 5 0 0 96 [(4, .int (iI i)), (0, .ref y0), (1, .int (iI ha)), (2, .int (iI ti)), (3, .int (iI lz))] [] [cO_iiiiiri y0 0 ha y1 y2 1 0 y_hf 0, cA Z y_hf 0 2 Df1] := by
              intro fuel
              induction fuel with
              | zero => intro i Df1 _ _ hm; exact absurd hm (Nat.not_lt_zero _)
              | succ fuel ih =>
                intro i Df1 b_i h_Df1 hm
                refine g_iload (pc := 96) X 0 rfl dX0_begin_96 ?_
                refine g_iconst (pc := 98) X (iI 2) (by rfl) dX0_begin_98 ?_
                refine g_icmp_geI (pc := 99) X 116 (by decide) (inRb b_i (by decide) (by decide)) ⟨by decide, by decide⟩ dX0_begin_99 (fun c99 => ?_) (fun c99 => ?_)
                · refine g_iconst (pc := 116) X (iI 1) (by rfl) dX0_begin_116 ?_
                  exact g_zret (pc := 117) X hA (rfl) (⟨Df1, ha, y1, y2, 1, 0, 0, 1, rfl, rfl, (b_ha), (by1), (by2), (by (first | (clear b_ti b_dh b_ds b_db b_dl b_dp b_dq; omega) | omega)), (by (first | (clear b_ti b_dh b_ds b_db b_dl b_dp b_dq; omega) | omega)), (by (first | (clear b_ti b_dh b_ds b_db b_dl b_dp b_dq; omega) | omega)), (by (first | (clear b_ti b_dh b_ds b_db b_dl b_dp b_dq; omega) | omega)), (h_Df1)⟩) (by decide) (by decide) dX0_begin_117
                · refine g_aload_n (pc := 102) X 1 rfl dX0_begin_102 ?_
                  refine g_get (pc := 103) X inlX0 0 rfl rfl 5 (by decide) mw_6_3 rfl dX0_begin_103 ?_
                  refine g_iload (pc := 106) X 0 rfl dX0_begin_106 ?_
                  refine g_iconst (pc := 108) X (iI 0) (by rfl) dX0_begin_108 ?_
                  refine g_iastG (pc := 109) X 1 rfl (b_i.1) (by (first | (clear b_ti b_dh b_ds b_db b_dl b_dp b_dq; omega) | omega)) (Int.le_trans b_i.2 (by decide)) (ws' := fun F8 => [cO_iiiiiri y0 0 ha y1 y2 1 0 y_hf 0, cA Z y_hf 0 2 F8]) (fun _ => rfl) dX0_begin_109 (fun F8 eF8 => ?_)
                  have hF8 : ∀ j, j < 2 → (-2147483648) ≤ F8 j ∧ F8 j ≤ 2147483647 := by rw [eF8]; exact updI_B h_Df1 (by (first | (clear b_ti b_dh b_ds b_db b_dl b_dp b_dq; omega) | omega))
                  refine g_iincI (pc := 110) X 0 rfl (by decide) (lv' := [(4, .int (iI (i + 1))), (0, .ref y0), (1, .int (iI ha)), (2, .int (iI ti)), (3, .int (iI lz))]) rfl dX0_begin_110 ?_
                  refine g_goto (pc := 113) X 96 (by decide) dX0_begin_113 ?_
                  exact ih (i + 1) F8 (by (first | (clear b_ti b_dh b_ds b_db b_dl b_dp b_dq; omega) | omega)) (hF8) (by (first | (clear b_ti b_dh b_ds b_db b_dl b_dp b_dq; omega) | omega))
            exact loop96 _ 0 Df (by (first | (clear b_ti b_dh b_ds b_db b_dl b_dp b_dq; omega) | omega)) (h_Df) (Nat.lt_succ_self _)
        · refine g_iconst (pc := 62) X (iI 0) (by rfl) dX0_begin_62 ?_
          exact g_zret (pc := 63) X hA (rfl) (⟨Df, dh, y1, y2, dl, dp, dq, 0, rfl, rfl, (b_dh), (by1), (by2), (b_dl), (b_dp), (b_dq), (by (first | (clear b_ti b_dh b_ds b_db b_dl b_dp b_dq; omega) | omega)), (h_Df)⟩) (by decide) (by decide) dX0_begin_63
    · refine g_iconst (pc := 42) X (iI 0) (by rfl) dX0_begin_42 ?_
      exact g_zret (pc := 43) X hA (rfl) (⟨Df, dh, y1, y2, dl, dp, dq, 0, rfl, rfl, (b_dh), (by1), (by2), (b_dl), (b_dp), (b_dq), (by (first | (clear b_ti b_dh b_ds b_db b_dl b_dp b_dq; omega) | omega)), (h_Df)⟩) (by decide) (by decide) dX0_begin_43

set_option maxHeartbeats 4000000 in
set_option maxRecDepth 100000 in
theorem k_X0_freeFirst (l : Launch) (Z : gZ) (y0 : Nat) (y_hf : Nat) (Df : Nat → Int) (dh : Int) (ds : Int) (db : Int) (dl : Int) (dp : Int) (dq : Int) (b_dh : (-2147483648) ≤ dh ∧ dh ≤ 2147483647) (b_ds : (-2147483648) ≤ ds ∧ ds ≤ 2147483647) (b_db : (-2147483648) ≤ db ∧ db ≤ 2147483647) (b_dl : 0 ≤ dl ∧ dl ≤ 1) (b_dp : (-2147483648) ≤ dp ∧ dp ≤ 2147483647) (b_dq : (-2147483648) ≤ dq ∧ dq ≤ 2147483647) (h_Df : ∀ j, j < 2 → (-2147483648) ≤ Df j ∧ Df j ≤ 2147483647) : Con l Z yX0_freeFirst cX0_freeFirst 1 (some .int) 0 0 0 0 [.ref y0] [cO_iiiiiri y0 0 dh ds db dl dp y_hf dq, cA Z y_hf 0 2 Df] (fun r w' => ∃ (y : Int), (r = some (.int (iI y))) ∧ (w' = [cO_iiiiiri y0 0 dh ds db dl dp y_hf dq, cA Z y_hf 0 2 Df]) ∧ (0 ≤ y ∧ y ≤ 1)) := by
  refine enter (by decide) (Nat.le_of_ble_eq_true rfl) ?_
  intro p e s m args below meth c A X hnm hA
  have X : Cx p s m args meth c cX0_freeFirst 1 (some .int) RX0 Z A := X
  refine g_as (pc' := 0) (lv' := [(0, .ref y0)]) (st' := []) (ws' := [cO_iiiiiri y0 0 dh ds db dl dp y_hf dq, cA Z y_hf 0 2 Df]) rfl rfl rfl rfl ?_
  refine g_aload_n (pc := 0) X 0 rfl dX0_freeFirst_0 ?_
  refine g_get (pc := 1) X inlX0 0 rfl rfl 0 (by decide) mw_54_4 rfl dX0_freeFirst_1 ?_
  refine g_iconst (pc := 4) X (iI 2) (by rfl) dX0_freeFirst_4 ?_
  refine g_icmp_neI (pc := 5) X 27 (by decide) b_dh ⟨by decide, by decide⟩ dX0_freeFirst_5 (fun c5 => ?_) (fun c5 => ?_)
  · refine g_iconst (pc := 27) X (iI 0) (by rfl) dX0_freeFirst_27 ?_
    exact g_iret (pc := 28) X hA (⟨0, rfl, rfl, (by (first | (clear b_dh b_ds b_db b_dl b_dp b_dq; omega) | omega))⟩) (by decide) (by decide) dX0_freeFirst_28
  · refine g_aload_n (pc := 8) X 0 rfl dX0_freeFirst_8 ?_
    refine g_get (pc := 9) X inlX0 0 rfl rfl 5 (by decide) mw_6_3 rfl dX0_freeFirst_9 ?_
    refine g_iconst (pc := 12) X (iI 1) (by rfl) dX0_freeFirst_12 ?_
    refine g_ialdI (pc := 13) X 1 rfl (by decide) (by decide) (by decide) dX0_freeFirst_13 ?_
    refine g_nameI (fun y1 ey1 => ?_)
    have by1 : (-2147483648) ≤ y1 ∧ y1 ≤ 2147483647 := by rw [ey1]; exact h_Df _ (by (first | (clear b_dh b_ds b_db b_dl b_dp b_dq; omega) | omega))
    refine g_aload_n (pc := 14) X 0 rfl dX0_freeFirst_14 ?_
    refine g_get (pc := 15) X inlX0 0 rfl rfl 5 (by decide) mw_6_3 rfl dX0_freeFirst_15 ?_
    refine g_iconst (pc := 18) X (iI 0) (by rfl) dX0_freeFirst_18 ?_
    refine g_ialdI (pc := 19) X 1 rfl (by decide) (by decide) (by decide) dX0_freeFirst_19 ?_
    refine g_nameI (fun y2 ey2 => ?_)
    have by2 : (-2147483648) ≤ y2 ∧ y2 ≤ 2147483647 := by rw [ey2]; exact h_Df _ (by (first | (clear b_dh b_ds b_db b_dl b_dp b_dq; omega) | omega))
    refine g_icmp_geI (pc := 20) X 27 (by decide) by1 by2 dX0_freeFirst_20 (fun c20 => ?_) (fun c20 => ?_)
    · refine g_iconst (pc := 27) X (iI 0) (by rfl) dX0_freeFirst_27 ?_
      exact g_iret (pc := 28) X hA (⟨0, rfl, rfl, (by (first | (clear b_dh b_ds b_db b_dl b_dp b_dq; omega) | omega))⟩) (by decide) (by decide) dX0_freeFirst_28
    · refine g_iconst (pc := 23) X (iI 1) (by rfl) dX0_freeFirst_23 ?_
      refine g_goto (pc := 24) X 28 (by decide) dX0_freeFirst_24 ?_
      exact g_iret (pc := 28) X hA (⟨1, rfl, rfl, (by (first | (clear b_dh b_ds b_db b_dl b_dp b_dq; omega) | omega))⟩) (by decide) (by decide) dX0_freeFirst_28

set_option maxHeartbeats 4000000 in
set_option maxRecDepth 100000 in
theorem k_X0_lastMinute (l : Launch) (Z : gZ) (y0 : Nat) (y_hf : Nat) (Df : Nat → Int) (dh : Int) (ds : Int) (db : Int) (dl : Int) (dp : Int) (dq : Int) (b_dh : (-2147483648) ≤ dh ∧ dh ≤ 2147483647) (b_ds : (-2147483648) ≤ ds ∧ ds ≤ 2147483647) (b_db : (-2147483648) ≤ db ∧ db ≤ 2147483647) (b_dl : 0 ≤ dl ∧ dl ≤ 1) (b_dp : (-2147483648) ≤ dp ∧ dp ≤ 2147483647) (b_dq : (-2147483648) ≤ dq ∧ dq ≤ 2147483647) (h_Df : ∀ j, j < 2 → (-2147483648) ≤ Df j ∧ Df j ≤ 2147483647) : Con l Z yX0_lastMinute cX0_lastMinute 1 (some .int) 1 24 0 0 [.ref y0] [cO_iiiiiri y0 0 dh ds db dl dp y_hf dq, cA Z y_hf 0 2 Df] (fun r w' => ∃ (y : Int), (r = some (.int (iI y))) ∧ (w' = [cO_iiiiiri y0 0 dh ds db dl dp y_hf dq, cA Z y_hf 0 2 Df]) ∧ ((-2147483648) ≤ y ∧ y ≤ 2147483647)) := by
  refine enter (by decide) (Nat.le_of_ble_eq_true rfl) ?_
  intro p e s m args below meth c A X hnm hA
  have X : Cx p s m args meth c cX0_lastMinute 1 (some .int) RX0 Z A := X
  refine g_as (pc' := 0) (lv' := [(0, .ref y0)]) (st' := []) (ws' := [cO_iiiiiri y0 0 dh ds db dl dp y_hf dq, cA Z y_hf 0 2 Df]) rfl rfl rfl rfl ?_
  refine g_aload_n (pc := 0) X 0 rfl dX0_lastMinute_0 ?_
  refine g_get (pc := 1) X inlX0 0 rfl rfl 5 (by decide) mw_6_3 rfl dX0_lastMinute_1 ?_
  refine g_iconst (pc := 4) X (iI 0) (by rfl) dX0_lastMinute_4 ?_
  refine g_ialdI (pc := 5) X 1 rfl (by decide) (by decide) (by decide) dX0_lastMinute_5 ?_
  refine g_nameI (fun y1 ey1 => ?_)
  have by1 : (-2147483648) ≤ y1 ∧ y1 ≤ 2147483647 := by rw [ey1]; exact h_Df _ (by (first | (clear b_dh b_ds b_db b_dl b_dp b_dq; omega) | omega))
  refine g_aload_n (pc := 6) X 0 rfl dX0_lastMinute_6 ?_
  refine g_get (pc := 7) X inlX0 0 rfl rfl 5 (by decide) mw_6_3 rfl dX0_lastMinute_7 ?_
  refine g_iconst (pc := 10) X (iI 1) (by rfl) dX0_lastMinute_10 ?_
  refine g_ialdI (pc := 11) X 1 rfl (by decide) (by decide) (by decide) dX0_lastMinute_11 ?_
  refine g_nameI (fun y2 ey2 => ?_)
  have by2 : (-2147483648) ≤ y2 ∧ y2 ≤ 2147483647 := by rw [ey2]; exact h_Df _ (by (first | (clear b_dh b_ds b_db b_dl b_dp b_dq; omega) | omega))
  refine g_maxI (pc := 12) X mw_54_12 mw_12_11 mw_25_23 mw_12_13 (by decide) (Nat.le_of_ble_eq_true rfl) (by decide) (by decide) by1 by2 dX0_lastMinute_12 ?_
  refine g_nameI (fun y3 ey3 => ?_)
  have my3 : y1 ≤ y3 ∧ y2 ≤ y3 ∧ (y3 = y1 ∨ y3 = y2) := by rw [ey3]; exact maxF _ _
  clear ey3
  exact g_iret (pc := 15) X hA (⟨y3, rfl, rfl, (by (first | (clear b_dh b_ds b_db b_dl b_dp b_dq; omega) | omega))⟩) (by decide) (by decide) dX0_lastMinute_15

set_option maxHeartbeats 4000000 in
set_option maxRecDepth 100000 in
theorem k_X0_take (l : Launch) (Z : gZ) (y0 : Nat) (y_hf : Nat) (Df : Nat → Int) (to_ : Int) (dh : Int) (ds : Int) (db : Int) (dl : Int) (dp : Int) (dq : Int) (b_to_ : (-2147483648) ≤ to_ ∧ to_ ≤ 2147483647) (b_dh : (-2147483648) ≤ dh ∧ dh ≤ 2147483647) (b_ds : (-2147483648) ≤ ds ∧ ds ≤ 2147483647) (b_db : (-2147483648) ≤ db ∧ db ≤ 2147483647) (b_dl : 0 ≤ dl ∧ dl ≤ 1) (b_dp : (-2147483648) ≤ dp ∧ dp ≤ 2147483647) (b_dq : (-2147483648) ≤ dq ∧ dq ≤ 2147483647) (h_Df : ∀ j, j < 2 → (-2147483648) ≤ Df j ∧ Df j ≤ 2147483647) : Con l Z yX0_take cX0_take 7 none 1 24 0 0 [.ref y0, .int (iI to_)] [cO_iiiiiri y0 0 dh ds db dl dp y_hf dq, cA Z y_hf 0 2 Df] (fun r w' => ∃ (Df2 : Nat → Int) (dp2 : Int) (dq2 : Int), (r = none) ∧ (w' = [cO_iiiiiri y0 0 dh ds db dl dp2 y_hf dq2, cA Z y_hf 0 2 Df2]) ∧ ((-2147483648) ≤ dp2 ∧ dp2 ≤ 2147483647) ∧ ((-2147483648) ≤ dq2 ∧ dq2 ≤ 2147483647) ∧ (∀ j, j < 2 → (-2147483648) ≤ Df2 j ∧ Df2 j ≤ 2147483647)) := by
  refine enter (by decide) (Nat.le_of_ble_eq_true rfl) ?_
  intro p e s m args below meth c A X hnm hA
  have X : Cx p s m args meth c cX0_take 7 none RX0 Z A := X
  refine g_as (pc' := 0) (lv' := [(0, .ref y0), (1, .int (iI to_))]) (st' := []) (ws' := [cO_iiiiiri y0 0 dh ds db dl dp y_hf dq, cA Z y_hf 0 2 Df]) rfl rfl rfl rfl ?_
  refine g_iload_n (pc := 0) X 1 rfl dX0_take_0 ?_
  refine g_if_gtI (pc := 1) X 5 (by decide) b_to_ dX0_take_1 (fun c1 => ?_) (fun c1 => ?_)
  · refine g_aload_n (pc := 5) X 0 rfl dX0_take_5 ?_
    refine g_callV (pc := 6) X (k_X0_freeFirst l Z y0 y_hf Df dh ds db dl dp dq b_dh b_ds b_db b_dl b_dp b_dq (h_Df)) iM_X0_freeFirst mw_54_13 mw_54_14 mw_54_15 0 rfl rfl [0, 1] [] rfl (wr := []) rfl (by decide) rfl rfl (Nat.le_of_ble_eq_true rfl) (by decide) dX0_take_6 (fun r w' hpo => ?_)
    refine exN_1 hpo fun y1 hz => anD_3 hz fun e_r e_w hf6_b_y => ?_; clear hz hpo; subst e_r; subst e_w
    refine g_as (pc' := 9) (lv' := [(0, .ref y0), (1, .int (iI to_))]) (st' := [.int (iI y1)]) (ws' := [cO_iiiiiri y0 0 dh ds db dl dp y_hf dq, cA Z y_hf 0 2 Df]) rfl rfl rfl rfl ?_
    refine g_istore_n (pc := 9) X (i := 2) rfl (by decide) (lv' := [(2, .int (iI y1)), (0, .ref y0), (1, .int (iI to_))]) rfl dX0_take_9 ?_
    refine g_iconst (pc := 10) X (iI 2) (by rfl) dX0_take_10 ?_
    refine g_iload_n (pc := 11) X 2 rfl dX0_take_11 ?_
    refine g_bipush (pc := 12) X (iI 100) (by decide) dX0_take_12 ?_
    refine g_idivP (pc := 14) X (by (first | (clear b_dh b_ds b_db b_dl b_dq; omega) | omega)) (by (first | (clear b_dh b_ds b_db b_dl b_dq; omega) | omega)) (by (first | (clear b_dh b_ds b_db b_dl b_dq; omega) | omega)) (by (first | (clear b_dh b_ds b_db b_dl b_dq; omega) | omega)) dX0_take_14 ?_
    refine g_iaddI (pc := 15) X dX0_take_15 ?_
    refine g_istore_n (pc := 16) X (i := 3) rfl (by decide) (lv' := [(3, .int (iI (2 + (to_ / 100)))), (2, .int (iI y1)), (0, .ref y0), (1, .int (iI to_))]) rfl dX0_take_16 ?_
    refine g_aload_n (pc := 17) X 2 rfl dX0_take_17 ?_
    refine g_get (pc := 18) X inlX0 0 rfl rfl 4 (by decide) mw_54_6 rfl dX0_take_18 ?_
    refine g_istore (pc := 21) X (by decide) (lv' := [(4, .int (iI dp)), (3, .int (iI (2 + (to_ / 100)))), (2, .int (iI y1)), (0, .ref y0), (1, .int (iI to_))]) rfl dX0_take_21 ?_
    refine g_aload_n (pc := 23) X 3 rfl dX0_take_23 ?_
    refine g_get (pc := 24) X inlX0 0 rfl rfl 3 (by decide) mw_54_5 rfl dX0_take_24 ?_
    refine g_if_eqI (pc := 27) X 50 (by decide) (inRb b_dl (by decide) (by decide)) dX0_take_27 (fun c27 => ?_) (fun c27 => ?_)
    · refine g_aload_n (pc := 50) X 3 rfl dX0_take_50 ?_
      refine g_iload (pc := 51) X 0 rfl dX0_take_51 ?_
      refine g_iload_n (pc := 53) X 1 rfl dX0_take_53 ?_
      refine g_iaddI (pc := 54) X dX0_take_54 ?_
      refine g_any (fun y3 by3 => ?_)
      refine g_put (pc := 55) X inlX0 tyX0_ok nmX0 0 rfl rfl 4 (by decide) mw_54_6 rfl rfl rfl (Nat.le_of_ble_eq_true rfl) (ws' := [cO_iiiiiri y0 0 dh ds db dl y3 y_hf dq, cA Z y_hf 0 2 Df]) rfl dX0_take_55 ?_
      refine g_aload_n (pc := 58) X 3 rfl dX0_take_58 ?_
      refine g_get (pc := 59) X inlX0 0 rfl rfl 4 (by decide) mw_54_6 rfl dX0_take_59 ?_
      refine g_aload_n (pc := 62) X 3 rfl dX0_take_62 ?_
      refine g_get (pc := 63) X inlX0 0 rfl rfl 1 (by decide) mw_54_2 rfl dX0_take_63 ?_
      refine g_iaddI (pc := 66) X dX0_take_66 ?_
      refine g_any (fun y4 by4 => ?_)
      refine g_istore (pc := 67) X (by decide) (lv' := [(5, .int (iI y4)), (4, .int (iI dp)), (3, .int (iI (2 + (to_ / 100)))), (2, .int (iI y1)), (0, .ref y0), (1, .int (iI to_))]) rfl dX0_take_67 ?_
      refine g_iload (pc := 69) X 0 rfl dX0_take_69 ?_
      refine g_aload_n (pc := 71) X 4 rfl dX0_take_71 ?_
      refine g_get (pc := 72) X inlX0 0 rfl rfl 5 (by decide) mw_6_3 rfl dX0_take_72 ?_
      refine g_iload_n (pc := 75) X 3 rfl dX0_take_75 ?_
      refine g_ialdI (pc := 76) X 1 rfl (hf6_b_y.1) (Int.lt_of_le_of_lt hf6_b_y.2 (by decide)) (Int.le_trans hf6_b_y.2 (by decide)) dX0_take_76 ?_
      refine g_nameI (fun y5 ey5 => ?_)
      have by5 : (-2147483648) ≤ y5 ∧ y5 ≤ 2147483647 := by rw [ey5]; exact h_Df _ (by (first | (clear b_dh b_ds b_db b_dl b_dq; omega) | omega))
      refine g_maxI (pc := 77) X mw_54_12 mw_12_11 mw_25_23 mw_12_13 (by decide) (Nat.le_of_ble_eq_true rfl) (by decide) (by decide) by4 by5 dX0_take_77 ?_
      refine g_nameI (fun y6 ey6 => ?_)
      have my6 : y4 ≤ y6 ∧ y5 ≤ y6 ∧ (y6 = y4 ∨ y6 = y5) := by rw [ey6]; exact maxF _ _
      clear ey6
      refine g_istore (pc := 80) X (by decide) (lv' := [(6, .int (iI y6)), (5, .int (iI y4)), (4, .int (iI dp)), (3, .int (iI (2 + (to_ / 100)))), (2, .int (iI y1)), (0, .ref y0), (1, .int (iI to_))]) rfl dX0_take_80 ?_
      refine g_iload (pc := 82) X 0 rfl dX0_take_82 ?_
      refine g_iload (pc := 84) X 1 rfl dX0_take_84 ?_
      refine g_isubI (pc := 86) X dX0_take_86 ?_
      refine g_any (fun y7 by7 => ?_)
      refine g_aload_n (pc := 87) X 5 rfl dX0_take_87 ?_
      refine g_get (pc := 88) X inlX0 0 rfl rfl 2 (by decide) mw_54_3 rfl dX0_take_88 ?_
      refine g_icmp_leI (pc := 91) X 104 (by decide) by7 b_db dX0_take_91 (fun c91 => ?_) (fun c91 => ?_)
      · refine g_aload_n (pc := 104) X 5 rfl dX0_take_104 ?_
        refine g_get (pc := 105) X inlX0 0 rfl rfl 5 (by decide) mw_6_3 rfl dX0_take_105 ?_
        refine g_iload_n (pc := 108) X 4 rfl dX0_take_108 ?_
        refine g_iload (pc := 109) X 0 rfl dX0_take_109 ?_
        refine g_iconst (pc := 111) X (iI 5) (by rfl) dX0_take_111 ?_
        refine g_iaddI (pc := 112) X dX0_take_112 ?_
        refine g_any (fun y8 by8 => ?_)
        refine g_iload_n (pc := 113) X 6 rfl dX0_take_113 ?_
        refine g_bipush (pc := 114) X (iI 50) (by decide) dX0_take_114 ?_
        refine g_idivP (pc := 116) X (by (first | (clear b_dh b_ds b_db b_dl b_dq; omega) | omega)) (by (first | (clear b_dh b_ds b_db b_dl b_dq; omega) | omega)) (by (first | (clear b_dh b_ds b_db b_dl b_dq; omega) | omega)) (by (first | (clear b_dh b_ds b_db b_dl b_dq; omega) | omega)) dX0_take_116 ?_
        refine g_iaddI (pc := 117) X dX0_take_117 ?_
        refine g_any (fun y9 by9 => ?_)
        refine g_iastG (pc := 118) X 1 rfl (hf6_b_y.1) (Int.lt_of_le_of_lt hf6_b_y.2 (by decide)) (Int.le_trans hf6_b_y.2 (by decide)) (ws' := fun F10 => [cO_iiiiiri y0 0 dh ds db dl y3 y_hf dq, cA Z y_hf 0 2 F10]) (fun _ => rfl) dX0_take_118 (fun F10 eF10 => ?_)
        have hF10 : ∀ j, j < 2 → (-2147483648) ≤ F10 j ∧ F10 j ≤ 2147483647 := by rw [eF10]; exact updI_B h_Df (by (first | (clear b_dh b_ds b_db b_dl b_dq; omega) | omega))
        exact g_vret (pc := 119) X hA (⟨F10, y3, dq, rfl, rfl, (by3), (b_dq), (hF10)⟩) (by decide) (by decide) dX0_take_119
      · refine g_aload_n (pc := 94) X 5 rfl dX0_take_94 ?_
        refine g_dup (pc := 95) X rfl dX0_take_95 ?_
        refine g_get (pc := 96) X inlX0 0 rfl rfl 6 (by decide) mw_54_7 rfl dX0_take_96 ?_
        refine g_iconst (pc := 99) X (iI 1) (by rfl) dX0_take_99 ?_
        refine g_iaddI (pc := 100) X dX0_take_100 ?_
        refine g_any (fun y11 by11 => ?_)
        refine g_put (pc := 101) X inlX0 tyX0_ok nmX0 0 rfl rfl 6 (by decide) mw_54_7 rfl rfl rfl (Nat.le_of_ble_eq_true rfl) (ws' := [cO_iiiiiri y0 0 dh ds db dl y3 y_hf y11, cA Z y_hf 0 2 Df]) rfl dX0_take_101 ?_
        refine g_aload_n (pc := 104) X 5 rfl dX0_take_104 ?_
        refine g_get (pc := 105) X inlX0 0 rfl rfl 5 (by decide) mw_6_3 rfl dX0_take_105 ?_
        refine g_iload_n (pc := 108) X 4 rfl dX0_take_108 ?_
        refine g_iload (pc := 109) X 0 rfl dX0_take_109 ?_
        refine g_iconst (pc := 111) X (iI 5) (by rfl) dX0_take_111 ?_
        refine g_iaddI (pc := 112) X dX0_take_112 ?_
        refine g_any (fun y12 by12 => ?_)
        refine g_iload_n (pc := 113) X 6 rfl dX0_take_113 ?_
        refine g_bipush (pc := 114) X (iI 50) (by decide) dX0_take_114 ?_
        refine g_idivP (pc := 116) X (by (first | (clear b_dh b_ds b_db b_dl b_dq; omega) | omega)) (by (first | (clear b_dh b_ds b_db b_dl b_dq; omega) | omega)) (by (first | (clear b_dh b_ds b_db b_dl b_dq; omega) | omega)) (by (first | (clear b_dh b_ds b_db b_dl b_dq; omega) | omega)) dX0_take_116 ?_
        refine g_iaddI (pc := 117) X dX0_take_117 ?_
        refine g_any (fun y13 by13 => ?_)
        refine g_iastG (pc := 118) X 1 rfl (hf6_b_y.1) (Int.lt_of_le_of_lt hf6_b_y.2 (by decide)) (Int.le_trans hf6_b_y.2 (by decide)) (ws' := fun F14 => [cO_iiiiiri y0 0 dh ds db dl y3 y_hf y11, cA Z y_hf 0 2 F14]) (fun _ => rfl) dX0_take_118 (fun F14 eF14 => ?_)
        have hF14 : ∀ j, j < 2 → (-2147483648) ≤ F14 j ∧ F14 j ≤ 2147483647 := by rw [eF14]; exact updI_B h_Df (by (first | (clear b_dh b_ds b_db b_dl b_dq; omega) | omega))
        exact g_vret (pc := 119) X hA (⟨F14, y3, y11, rfl, rfl, (by3), (by11), (hF14)⟩) (by decide) (by decide) dX0_take_119
    · refine g_iload (pc := 30) X 0 rfl dX0_take_30 ?_
      refine g_aload_n (pc := 32) X 3 rfl dX0_take_32 ?_
      refine g_get (pc := 33) X inlX0 0 rfl rfl 5 (by decide) mw_6_3 rfl dX0_take_33 ?_
      refine g_iload_n (pc := 36) X 2 rfl dX0_take_36 ?_
      refine g_ialdI (pc := 37) X 1 rfl (hf6_b_y.1) (Int.lt_of_le_of_lt hf6_b_y.2 (by decide)) (Int.le_trans hf6_b_y.2 (by decide)) dX0_take_37 ?_
      refine g_nameI (fun y15 ey15 => ?_)
      have by15 : (-2147483648) ≤ y15 ∧ y15 ≤ 2147483647 := by rw [ey15]; exact h_Df _ (by (first | (clear b_dh b_ds b_db b_dl b_dq; omega) | omega))
      refine g_aload_n (pc := 38) X 3 rfl dX0_take_38 ?_
      refine g_get (pc := 39) X inlX0 0 rfl rfl 1 (by decide) mw_54_2 rfl dX0_take_39 ?_
      refine g_isubI (pc := 42) X dX0_take_42 ?_
      refine g_any (fun y16 by16 => ?_)
      refine g_iload_n (pc := 43) X 1 rfl dX0_take_43 ?_
      refine g_isubI (pc := 44) X dX0_take_44 ?_
      refine g_any (fun y17 by17 => ?_)
      refine g_maxI (pc := 45) X mw_54_12 mw_12_11 mw_25_23 mw_12_13 (by decide) (Nat.le_of_ble_eq_true rfl) (by decide) (by decide) b_dp by17 dX0_take_45 ?_
      refine g_nameI (fun y18 ey18 => ?_)
      have my18 : dp ≤ y18 ∧ y17 ≤ y18 ∧ (y18 = dp ∨ y18 = y17) := by rw [ey18]; exact maxF _ _
      clear ey18
      refine g_istore (pc := 48) X (by decide) (lv' := [(4, .int (iI y18)), (3, .int (iI (2 + (to_ / 100)))), (2, .int (iI y1)), (0, .ref y0), (1, .int (iI to_))]) rfl dX0_take_48 ?_
      refine g_aload_n (pc := 50) X 3 rfl dX0_take_50 ?_
      refine g_iload (pc := 51) X 0 rfl dX0_take_51 ?_
      refine g_iload_n (pc := 53) X 1 rfl dX0_take_53 ?_
      refine g_iaddI (pc := 54) X dX0_take_54 ?_
      refine g_any (fun y19 by19 => ?_)
      refine g_put (pc := 55) X inlX0 tyX0_ok nmX0 0 rfl rfl 4 (by decide) mw_54_6 rfl rfl rfl (Nat.le_of_ble_eq_true rfl) (ws' := [cO_iiiiiri y0 0 dh ds db dl y19 y_hf dq, cA Z y_hf 0 2 Df]) rfl dX0_take_55 ?_
      refine g_aload_n (pc := 58) X 3 rfl dX0_take_58 ?_
      refine g_get (pc := 59) X inlX0 0 rfl rfl 4 (by decide) mw_54_6 rfl dX0_take_59 ?_
      refine g_aload_n (pc := 62) X 3 rfl dX0_take_62 ?_
      refine g_get (pc := 63) X inlX0 0 rfl rfl 1 (by decide) mw_54_2 rfl dX0_take_63 ?_
      refine g_iaddI (pc := 66) X dX0_take_66 ?_
      refine g_any (fun y20 by20 => ?_)
      refine g_istore (pc := 67) X (by decide) (lv' := [(5, .int (iI y20)), (4, .int (iI y18)), (3, .int (iI (2 + (to_ / 100)))), (2, .int (iI y1)), (0, .ref y0), (1, .int (iI to_))]) rfl dX0_take_67 ?_
      refine g_iload (pc := 69) X 0 rfl dX0_take_69 ?_
      refine g_aload_n (pc := 71) X 4 rfl dX0_take_71 ?_
      refine g_get (pc := 72) X inlX0 0 rfl rfl 5 (by decide) mw_6_3 rfl dX0_take_72 ?_
      refine g_iload_n (pc := 75) X 3 rfl dX0_take_75 ?_
      refine g_ialdI (pc := 76) X 1 rfl (hf6_b_y.1) (Int.lt_of_le_of_lt hf6_b_y.2 (by decide)) (Int.le_trans hf6_b_y.2 (by decide)) dX0_take_76 ?_
      refine g_nameI (fun y21 ey21 => ?_)
      have by21 : (-2147483648) ≤ y21 ∧ y21 ≤ 2147483647 := by rw [ey21]; exact h_Df _ (by (first | (clear b_dh b_ds b_db b_dl b_dq; omega) | omega))
      refine g_maxI (pc := 77) X mw_54_12 mw_12_11 mw_25_23 mw_12_13 (by decide) (Nat.le_of_ble_eq_true rfl) (by decide) (by decide) by20 by21 dX0_take_77 ?_
      refine g_nameI (fun y22 ey22 => ?_)
      have my22 : y20 ≤ y22 ∧ y21 ≤ y22 ∧ (y22 = y20 ∨ y22 = y21) := by rw [ey22]; exact maxF _ _
      clear ey22
      refine g_istore (pc := 80) X (by decide) (lv' := [(6, .int (iI y22)), (5, .int (iI y20)), (4, .int (iI y18)), (3, .int (iI (2 + (to_ / 100)))), (2, .int (iI y1)), (0, .ref y0), (1, .int (iI to_))]) rfl dX0_take_80 ?_
      refine g_iload (pc := 82) X 0 rfl dX0_take_82 ?_
      refine g_iload (pc := 84) X 1 rfl dX0_take_84 ?_
      refine g_isubI (pc := 86) X dX0_take_86 ?_
      refine g_any (fun y23 by23 => ?_)
      refine g_aload_n (pc := 87) X 5 rfl dX0_take_87 ?_
      refine g_get (pc := 88) X inlX0 0 rfl rfl 2 (by decide) mw_54_3 rfl dX0_take_88 ?_
      refine g_icmp_leI (pc := 91) X 104 (by decide) by23 b_db dX0_take_91 (fun c91 => ?_) (fun c91 => ?_)
      · refine g_aload_n (pc := 104) X 5 rfl dX0_take_104 ?_
        refine g_get (pc := 105) X inlX0 0 rfl rfl 5 (by decide) mw_6_3 rfl dX0_take_105 ?_
        refine g_iload_n (pc := 108) X 4 rfl dX0_take_108 ?_
        refine g_iload (pc := 109) X 0 rfl dX0_take_109 ?_
        refine g_iconst (pc := 111) X (iI 5) (by rfl) dX0_take_111 ?_
        refine g_iaddI (pc := 112) X dX0_take_112 ?_
        refine g_any (fun y24 by24 => ?_)
        refine g_iload_n (pc := 113) X 6 rfl dX0_take_113 ?_
        refine g_bipush (pc := 114) X (iI 50) (by decide) dX0_take_114 ?_
        refine g_idivP (pc := 116) X (by (first | (clear b_dh b_ds b_db b_dl b_dq; omega) | omega)) (by (first | (clear b_dh b_ds b_db b_dl b_dq; omega) | omega)) (by (first | (clear b_dh b_ds b_db b_dl b_dq; omega) | omega)) (by (first | (clear b_dh b_ds b_db b_dl b_dq; omega) | omega)) dX0_take_116 ?_
        refine g_iaddI (pc := 117) X dX0_take_117 ?_
        refine g_any (fun y25 by25 => ?_)
        refine g_iastG (pc := 118) X 1 rfl (hf6_b_y.1) (Int.lt_of_le_of_lt hf6_b_y.2 (by decide)) (Int.le_trans hf6_b_y.2 (by decide)) (ws' := fun F26 => [cO_iiiiiri y0 0 dh ds db dl y19 y_hf dq, cA Z y_hf 0 2 F26]) (fun _ => rfl) dX0_take_118 (fun F26 eF26 => ?_)
        have hF26 : ∀ j, j < 2 → (-2147483648) ≤ F26 j ∧ F26 j ≤ 2147483647 := by rw [eF26]; exact updI_B h_Df (by (first | (clear b_dh b_ds b_db b_dl b_dq; omega) | omega))
        exact g_vret (pc := 119) X hA (⟨F26, y19, dq, rfl, rfl, (by19), (b_dq), (hF26)⟩) (by decide) (by decide) dX0_take_119
      · refine g_aload_n (pc := 94) X 5 rfl dX0_take_94 ?_
        refine g_dup (pc := 95) X rfl dX0_take_95 ?_
        refine g_get (pc := 96) X inlX0 0 rfl rfl 6 (by decide) mw_54_7 rfl dX0_take_96 ?_
        refine g_iconst (pc := 99) X (iI 1) (by rfl) dX0_take_99 ?_
        refine g_iaddI (pc := 100) X dX0_take_100 ?_
        refine g_any (fun y27 by27 => ?_)
        refine g_put (pc := 101) X inlX0 tyX0_ok nmX0 0 rfl rfl 6 (by decide) mw_54_7 rfl rfl rfl (Nat.le_of_ble_eq_true rfl) (ws' := [cO_iiiiiri y0 0 dh ds db dl y19 y_hf y27, cA Z y_hf 0 2 Df]) rfl dX0_take_101 ?_
        refine g_aload_n (pc := 104) X 5 rfl dX0_take_104 ?_
        refine g_get (pc := 105) X inlX0 0 rfl rfl 5 (by decide) mw_6_3 rfl dX0_take_105 ?_
        refine g_iload_n (pc := 108) X 4 rfl dX0_take_108 ?_
        refine g_iload (pc := 109) X 0 rfl dX0_take_109 ?_
        refine g_iconst (pc := 111) X (iI 5) (by rfl) dX0_take_111 ?_
        refine g_iaddI (pc := 112) X dX0_take_112 ?_
        refine g_any (fun y28 by28 => ?_)
        refine g_iload_n (pc := 113) X 6 rfl dX0_take_113 ?_
        refine g_bipush (pc := 114) X (iI 50) (by decide) dX0_take_114 ?_
        refine g_idivP (pc := 116) X (by (first | (clear b_dh b_ds b_db b_dl b_dq; omega) | omega)) (by (first | (clear b_dh b_ds b_db b_dl b_dq; omega) | omega)) (by (first | (clear b_dh b_ds b_db b_dl b_dq; omega) | omega)) (by (first | (clear b_dh b_ds b_db b_dl b_dq; omega) | omega)) dX0_take_116 ?_
        refine g_iaddI (pc := 117) X dX0_take_117 ?_
        refine g_any (fun y29 by29 => ?_)
        refine g_iastG (pc := 118) X 1 rfl (hf6_b_y.1) (Int.lt_of_le_of_lt hf6_b_y.2 (by decide)) (Int.le_trans hf6_b_y.2 (by decide)) (ws' := fun F30 => [cO_iiiiiri y0 0 dh ds db dl y19 y_hf y27, cA Z y_hf 0 2 F30]) (fun _ => rfl) dX0_take_118 (fun F30 eF30 => ?_)
        have hF30 : ∀ j, j < 2 → (-2147483648) ≤ F30 j ∧ F30 j ≤ 2147483647 := by rw [eF30]; exact updI_B h_Df (by (first | (clear b_dh b_ds b_db b_dl b_dq; omega) | omega))
        exact g_vret (pc := 119) X hA (⟨F30, y19, y27, rfl, rfl, (by19), (by27), (hF30)⟩) (by decide) (by decide) dX0_take_119
  · exact g_vret (pc := 4) X hA (⟨Df, dp, dq, rfl, rfl, (b_dp), (b_dq), (h_Df)⟩) (by decide) (by decide) dX0_take_4
