set_option maxHeartbeats 4000000 in
set_option maxRecDepth 100000 in
theorem k_X5_behind (l : Launch) (Z : gZ) (q0 : Nat) (p0 : Nat) (q_used : Nat) (q_leastOf : Nat) (q_longs : Nat) (q_phases : Nat) (Qlg : Nat → Int) (Qph : Nat → Int) (ah : Int) (pi : Int) (qo : Int) (qc : Int) (qp : Int) (pw : Int) (pr : Int) (pd : Int) (pl : Int) (pf : Int) (pg : Int) (b_ah : (-2147483648) ≤ ah ∧ ah ≤ 2147483647) (b_pi : 0 ≤ pi ∧ pi ≤ 11) (b_qo : 0 ≤ qo ∧ qo ≤ 2880) (b_qc : (-2147483648) ≤ qc ∧ qc ≤ 2147483647) (b_qp : (-2147483648) ≤ qp ∧ qp ≤ 2147483647) (b_pw : 20 ≤ pw ∧ pw ≤ 120) (b_pr : 10 ≤ pr ∧ pr ≤ 120) (b_pd : 0 ≤ pd ∧ pd ≤ 2) (b_pl : 300 ≤ pl ∧ pl ≤ 2000) (b_pf : 0 ≤ pf ∧ pf ≤ 119) (b_pg : 1 ≤ pg ∧ pg ≤ 120) (h_Qlg : ∀ j, j < 12 → (-2147483648) ≤ Qlg j ∧ Qlg j ≤ 2147483647) (h_Qph : ∀ j, j < 12 → 0 ≤ Qph j ∧ Qph j ≤ 119) : Con l Z yX5_behind cX5_behind 5 (some .int) 2 44 0 0 [.ref q0, .int (iI ah), .int (iI pi)] [cO_ririirrr q0 5 p0 qo q_used qc qp q_leastOf q_longs q_phases, cO_iiiiii p0 3 pw pr pd pl pf pg, cA Z q_longs 0 12 Qlg, cA Z q_phases 0 12 Qph] (fun r w' => ∃ (y : Int), (r = some (.int (iI y))) ∧ (w' = [cO_ririirrr q0 5 p0 qo q_used qc qp q_leastOf q_longs q_phases, cO_iiiiii p0 3 pw pr pd pl pf pg, cA Z q_longs 0 12 Qlg, cA Z q_phases 0 12 Qph]) ∧ ((-2147483648) ≤ y ∧ y ≤ 2147483647)) := by
  refine enter (by decide) (Nat.le_of_ble_eq_true rfl) ?_
  intro p e s m args below meth c A X hnm hA
  have X : Cx p s m args meth c cX5_behind 5 (some .int) RX5 Z A := X
  refine g_as (pc' := 0) (lv' := [(0, .ref q0), (1, .int (iI ah)), (2, .int (iI pi))]) (st' := []) (ws' := [cO_ririirrr q0 5 p0 qo q_used qc qp q_leastOf q_longs q_phases, cO_iiiiii p0 3 pw pr pd pl pf pg, cA Z q_longs 0 12 Qlg, cA Z q_phases 0 12 Qph]) rfl rfl rfl rfl ?_
  refine g_iload_n (pc := 0) X 1 rfl dX5_behind_0 ?_
  refine g_sipush (pc := 1) X (iI 4096) (by decide) dX5_behind_1 ?_
  refine g_idivI (pc := 4) X b_ah ⟨by decide, by decide⟩ (by decide) (by decide) dX5_behind_4 ?_
  refine g_any (fun y1 by1 => ?_)
  refine g_istore_n (pc := 5) X (i := 3) rfl (by decide) (lv' := [(3, .int (iI y1)), (0, .ref q0), (1, .int (iI ah)), (2, .int (iI pi))]) rfl dX5_behind_5 ?_
  refine g_aload_n (pc := 6) X 1 rfl dX5_behind_6 ?_
  refine g_get (pc := 7) X inlX5 0 rfl rfl 0 (by decide) mw_34_11 rfl dX5_behind_7 ?_
  refine g_iload_n (pc := 10) X 2 rfl dX5_behind_10 ?_
  refine g_sipush (pc := 11) X (iI 4096) (by decide) dX5_behind_11 ?_
  refine g_iremI (pc := 14) X b_ah ⟨by decide, by decide⟩ (by decide) (by decide) dX5_behind_14 ?_
  refine g_any (fun y2 by2 => ?_)
  refine g_aload_n (pc := 15) X 1 rfl dX5_behind_15 ?_
  refine g_get (pc := 16) X inlX5 0 rfl rfl 7 (by decide) mw_5_4 rfl dX5_behind_16 ?_
  refine g_iload_n (pc := 19) X 3 rfl dX5_behind_19 ?_
  refine g_ialdI (pc := 20) X 3 rfl (b_pi.1) (Int.lt_of_le_of_lt b_pi.2 (by decide)) (Int.le_trans b_pi.2 (by decide)) dX5_behind_20 ?_
  refine g_nameI (fun y3 ey3 => ?_)
  have by3 : 0 ≤ y3 ∧ y3 ≤ 119 := by rw [ey3]; exact h_Qph _ (by (first | (clear b_ah b_pi b_qo b_qc b_qp b_pw b_pr b_pd b_pl b_pf b_pg; omega) | omega))
  refine g_callV (pc := 21) X (k_X3_placeAny l Z p0 y2 y3 pw pr pd pl pf pg by2 (by (first | (clear b_ah b_pi b_qo b_qc b_qp b_pw b_pr b_pd b_pl b_pf b_pg; omega) | omega)) b_pw b_pr b_pd b_pl b_pf b_pg) iM_X3_placeBehind mw_35_0 mw_35_1 mw_35_2 1 rfl rfl [1] [0, 2, 3] rfl (wr := [cO_ririirrr q0 5 p0 qo q_used qc qp q_leastOf q_longs q_phases, cA Z q_longs 0 12 Qlg, cA Z q_phases 0 12 Qph]) rfl (by decide) rfl rfl (Nat.le_of_ble_eq_true rfl) (by decide) dX5_behind_21 (fun r w' hpo => ?_)
  refine exN_1 hpo fun y4 hz => anD_3 hz fun e_r e_w hf21_b_y => ?_; clear hz hpo; subst e_r; subst e_w
  refine g_as (pc' := 24) (lv' := [(3, .int (iI y1)), (0, .ref q0), (1, .int (iI ah)), (2, .int (iI pi))]) (st' := [.int (iI y4)]) (ws' := [cO_ririirrr q0 5 p0 qo q_used qc qp q_leastOf q_longs q_phases, cA Z q_longs 0 12 Qlg, cA Z q_phases 0 12 Qph, cO_iiiiii p0 3 pw pr pd pl pf pg]) rfl rfl rfl rfl ?_
  refine g_istore (pc := 24) X (by decide) (lv' := [(4, .int (iI y4)), (3, .int (iI y1)), (0, .ref q0), (1, .int (iI ah)), (2, .int (iI pi))]) rfl dX5_behind_24 ?_
  refine g_iload (pc := 26) X 0 rfl dX5_behind_26 ?_
  refine g_aload_n (pc := 28) X 2 rfl dX5_behind_28 ?_
  refine g_get (pc := 29) X inlX5 0 rfl rfl 6 (by decide) mw_5_3 rfl dX5_behind_29 ?_
  refine g_iload_n (pc := 32) X 4 rfl dX5_behind_32 ?_
  refine g_ialdI (pc := 33) X 1 rfl (b_pi.1) (Int.lt_of_le_of_lt b_pi.2 (by decide)) (Int.le_trans b_pi.2 (by decide)) dX5_behind_33 ?_
  refine g_nameI (fun y6 ey6 => ?_)
  have by6 : (-2147483648) ≤ y6 ∧ y6 ≤ 2147483647 := by rw [ey6]; exact h_Qlg _ (by (first | (clear b_ah b_pi b_qo b_qc b_qp b_pw b_pr b_pd b_pl b_pf b_pg; omega) | omega))
  refine g_iaddI (pc := 34) X dX5_behind_34 ?_
  refine g_any (fun y7 by7 => ?_)
  refine g_aload_n (pc := 35) X 2 rfl dX5_behind_35 ?_
  refine g_get (pc := 36) X inlX5 0 rfl rfl 0 (by decide) mw_34_11 rfl dX5_behind_36 ?_
  refine g_get (pc := 39) X inlX3 3 rfl rfl 3 (by decide) mw_34_23 rfl dX5_behind_39 ?_
  refine g_icmp_gtI (pc := 42) X 61 (by decide) by7 (inRb b_pl (by decide) (by decide)) dX5_behind_42 (fun c42 => ?_) (fun c42 => ?_)
  · refine g_iload_n (pc := 61) X 1 rfl dX5_behind_61 ?_
    refine g_iconst (pc := 62) X (iI 1) (by rfl) dX5_behind_62 ?_
    refine g_iaddI (pc := 63) X dX5_behind_63 ?_
    refine g_any (fun y8 by8 => ?_)
    refine g_sipush (pc := 64) X (iI 4096) (by decide) dX5_behind_64 ?_
    refine g_imulI (pc := 67) X dX5_behind_67 ?_
    refine g_any (fun y9 by9 => ?_)
    refine g_aload_n (pc := 68) X 2 rfl dX5_behind_68 ?_
    refine g_get (pc := 69) X inlX5 0 rfl rfl 7 (by decide) mw_5_4 rfl dX5_behind_69 ?_
    refine g_iload_n (pc := 72) X 4 rfl dX5_behind_72 ?_
    refine g_ialdI (pc := 73) X 2 rfl (b_pi.1) (Int.lt_of_le_of_lt b_pi.2 (by decide)) (Int.le_trans b_pi.2 (by decide)) dX5_behind_73 ?_
    refine g_nameI (fun y10 ey10 => ?_)
    have by10 : 0 ≤ y10 ∧ y10 ≤ 119 := by rw [ey10]; exact h_Qph _ (by (first | (clear b_ah b_pi b_qo b_qc b_qp b_pw b_pr b_pd b_pl b_pf b_pg; omega) | omega))
    refine g_iaddI (pc := 74) X dX5_behind_74 ?_
    refine g_any (fun y11 by11 => ?_)
    refine g_aload_n (pc := 75) X 2 rfl dX5_behind_75 ?_
    refine g_get (pc := 76) X inlX5 0 rfl rfl 6 (by decide) mw_5_3 rfl dX5_behind_76 ?_
    refine g_iload_n (pc := 79) X 4 rfl dX5_behind_79 ?_
    refine g_ialdI (pc := 80) X 1 rfl (b_pi.1) (Int.lt_of_le_of_lt b_pi.2 (by decide)) (Int.le_trans b_pi.2 (by decide)) dX5_behind_80 ?_
    refine g_nameI (fun y12 ey12 => ?_)
    have by12 : (-2147483648) ≤ y12 ∧ y12 ≤ 2147483647 := by rw [ey12]; exact h_Qlg _ (by (first | (clear b_ah b_pi b_qo b_qc b_qp b_pw b_pr b_pd b_pl b_pf b_pg; omega) | omega))
    refine g_iaddI (pc := 81) X dX5_behind_81 ?_
    refine g_any (fun y13 by13 => ?_)
    refine g_ws (ws' := [cO_ririirrr q0 5 p0 qo q_used qc qp q_leastOf q_longs q_phases, cO_iiiiii p0 3 pw pr pd pl pf pg, cA Z q_longs 0 12 Qlg, cA Z q_phases 0 12 Qph]) [0, 3, 1, 2] (by decide) rfl ?_
    exact g_iret (pc := 82) X hA (⟨y13, rfl, rfl, (by13)⟩) (by decide) (by decide) dX5_behind_82
  · refine g_iload_n (pc := 45) X 1 rfl dX5_behind_45 ?_
    refine g_sipush (pc := 46) X (iI 4096) (by decide) dX5_behind_46 ?_
    refine g_imulI (pc := 49) X dX5_behind_49 ?_
    refine g_any (fun y14 by14 => ?_)
    refine g_iload (pc := 50) X 0 rfl dX5_behind_50 ?_
    refine g_iaddI (pc := 52) X dX5_behind_52 ?_
    refine g_any (fun y15 by15 => ?_)
    refine g_aload_n (pc := 53) X 2 rfl dX5_behind_53 ?_
    refine g_get (pc := 54) X inlX5 0 rfl rfl 6 (by decide) mw_5_3 rfl dX5_behind_54 ?_
    refine g_iload_n (pc := 57) X 4 rfl dX5_behind_57 ?_
    refine g_ialdI (pc := 58) X 1 rfl (b_pi.1) (Int.lt_of_le_of_lt b_pi.2 (by decide)) (Int.le_trans b_pi.2 (by decide)) dX5_behind_58 ?_
    refine g_nameI (fun y16 ey16 => ?_)
    have by16 : (-2147483648) ≤ y16 ∧ y16 ≤ 2147483647 := by rw [ey16]; exact h_Qlg _ (by (first | (clear b_ah b_pi b_qo b_qc b_qp b_pw b_pr b_pd b_pl b_pf b_pg; omega) | omega))
    refine g_iaddI (pc := 59) X dX5_behind_59 ?_
    refine g_any (fun y17 by17 => ?_)
    refine g_ws (ws' := [cO_ririirrr q0 5 p0 qo q_used qc qp q_leastOf q_longs q_phases, cO_iiiiii p0 3 pw pr pd pl pf pg, cA Z q_longs 0 12 Qlg, cA Z q_phases 0 12 Qph]) [0, 3, 1, 2] (by decide) rfl ?_
    exact g_iret (pc := 60) X hA (⟨y17, rfl, rfl, (by17)⟩) (by decide) (by decide) dX5_behind_60

set_option maxHeartbeats 4000000 in
set_option maxRecDepth 100000 in
theorem k_X5_leastFor (l : Launch) (Z : gZ) (q0 : Nat) (p0 : Nat) (q_used : Nat) (q_leastOf : Nat) (q_longs : Nat) (q_phases : Nat) (Qlg : Nat → Int) (Qph : Nat → Int) (Qle : Nat → Int) (se : Int) (pi : Int) (qo : Int) (qc : Int) (qp : Int) (pw : Int) (pr : Int) (pd : Int) (pl : Int) (pf : Int) (pg : Int) (b_se : 0 ≤ se ∧ se ≤ 4095) (b_pi : 0 ≤ pi ∧ pi ≤ 12) (b_qo : 0 ≤ qo ∧ qo ≤ 2880) (b_qc : (-2147483648) ≤ qc ∧ qc ≤ 2147483647) (b_qp : (-2147483648) ≤ qp ∧ qp ≤ 2147483647) (b_pw : 20 ≤ pw ∧ pw ≤ 120) (b_pr : 10 ≤ pr ∧ pr ≤ 120) (b_pd : 0 ≤ pd ∧ pd ≤ 2) (b_pl : 300 ≤ pl ∧ pl ≤ 2000) (b_pf : 0 ≤ pf ∧ pf ≤ 119) (b_pg : 1 ≤ pg ∧ pg ≤ 120) (h_Qlg : ∀ j, j < 12 → (-2147483648) ≤ Qlg j ∧ Qlg j ≤ 2147483647) (h_Qph : ∀ j, j < 12 → 0 ≤ Qph j ∧ Qph j ≤ 119) (h_Qle : ∀ j, j < 4096 → (-2147483648) ≤ Qle j ∧ Qle j ≤ 2147483647) : Con l Z yX5_leastFor cX5_leastFor 5 (some .int) 3 68 0 0 [.ref q0, .int (iI se), .int (iI pi)] [cO_ririirrr q0 5 p0 qo q_used qc qp q_leastOf q_longs q_phases, cO_iiiiii p0 3 pw pr pd pl pf pg, cA Z q_longs 0 12 Qlg, cA Z q_phases 0 12 Qph, cA Z q_leastOf 0 4096 Qle] (fun r w' => ∃ (y : Int), (r = some (.int (iI y))) ∧ (w' = [cO_ririirrr q0 5 p0 qo q_used qc qp q_leastOf q_longs q_phases, cO_iiiiii p0 3 pw pr pd pl pf pg, cA Z q_longs 0 12 Qlg, cA Z q_phases 0 12 Qph, cA Z q_leastOf 0 4096 Qle]) ∧ ((-2147483648) ≤ y ∧ y ≤ 2147483647)) := by
  refine enter (by decide) (Nat.le_of_ble_eq_true rfl) ?_
  intro p e s m args below meth c A X hnm hA
  have X : Cx p s m args meth c cX5_leastFor 5 (some .int) RX5 Z A := X
  refine g_as (pc' := 0) (lv' := [(0, .ref q0), (1, .int (iI se)), (2, .int (iI pi))]) (st' := []) (ws' := [cO_ririirrr q0 5 p0 qo q_used qc qp q_leastOf q_longs q_phases, cO_iiiiii p0 3 pw pr pd pl pf pg, cA Z q_longs 0 12 Qlg, cA Z q_phases 0 12 Qph, cA Z q_leastOf 0 4096 Qle]) rfl rfl rfl rfl ?_
  refine g_iload_n (pc := 0) X 2 rfl dX5_leastFor_0 ?_
  refine g_iconst (pc := 1) X (iI 1) (by rfl) dX5_leastFor_1 ?_
  refine g_iaddI (pc := 2) X dX5_leastFor_2 ?_
  refine g_sipush (pc := 3) X (iI 4096) (by decide) dX5_leastFor_3 ?_
  refine g_imulI (pc := 6) X dX5_leastFor_6 ?_
  refine g_istore_n (pc := 7) X (i := 3) rfl (by decide) (lv' := [(3, .int (iI ((pi + 1) * 4096))), (0, .ref q0), (1, .int (iI se)), (2, .int (iI pi))]) rfl dX5_leastFor_7 ?_
  refine g_iconst (pc := 8) X (iI 0) (by rfl) dX5_leastFor_8 ?_
  refine g_istore (pc := 9) X (by decide) (lv' := [(4, .int (iI 0)), (3, .int (iI ((pi + 1) * 4096))), (0, .ref q0), (1, .int (iI se)), (2, .int (iI pi))]) rfl dX5_leastFor_9 ?_
  have loop11 : ∀ (fuel : Nat) (le : Int) (i : Int), ((-2147483648) ≤ le ∧ le ≤ 2147483647) → (0 ≤ i ∧ i ≤ 12) → (13 - i).toNat < fuel → Gs p l e ({ frames := 3, cells := 0, slots := 0, locals := 68 } : Room) s m args below meth c (MQ below (gPost Z [cO_ririirrr q0 5 p0 qo q_used qc qp q_leastOf q_longs q_phases, cO_iiiiii p0 3 pw pr pd pl pf pg, cA Z q_longs 0 12 Qlg, cA Z q_phases 0 12 Qph, cA Z q_leastOf 0 4096 Qle] s.heap.size (fun r w' => ∃ (y : Int), (r = some (.int (iI y))) ∧ (w' = [cO_ririirrr q0 5 p0 qo q_used qc qp q_leastOf q_longs q_phases, cO_iiiiii p0 3 pw pr pd pl pf pg, cA Z q_longs 0 12 Qlg, cA Z q_phases 0 12 Qph, cA Z q_leastOf 0 4096 Qle]) ∧ ((-2147483648) ≤ y ∧ y ≤ 2147483647))) args s 0 0 (va_A [cO_ririirrr q0 5 p0 qo q_used qc qp q_leastOf q_longs q_phases, cO_iiiiii p0 3 pw pr pd pl pf pg, cA Z q_longs 0 12 Qlg, cA Z q_phases 0 12 Qph, cA Z q_leastOf 0 4096 Qle] s.heap.size)) Z A 5 0 0 11 [(4, .int (iI i)), (3, .int (iI le)), (0, .ref q0), (1, .int (iI se)), (2, .int (iI pi))] [] [cO_ririirrr q0 5 p0 qo q_used qc qp q_leastOf q_longs q_phases, cO_iiiiii p0 3 pw pr pd pl pf pg, cA Z q_longs 0 12 Qlg, cA Z q_phases 0 12 Qph, cA Z q_leastOf 0 4096 Qle] := by
    intro fuel
    induction fuel with
    | zero => intro le i _ _ hm; exact absurd hm (Nat.not_lt_zero _)
    | succ fuel ih =>
      intro le i b_le b_i hm
      refine g_iload (pc := 11) X 0 rfl dX5_leastFor_11 ?_
      refine g_iload_n (pc := 13) X 4 rfl dX5_leastFor_13 ?_
      refine g_icmp_geI (pc := 14) X 57 (by decide) (inRb b_i (by decide) (by decide)) (inRb b_pi (by decide) (by decide)) dX5_leastFor_14 (fun c14 => ?_) (fun c14 => ?_)
      · refine g_iload_n (pc := 57) X 1 rfl dX5_leastFor_57 ?_
        exact g_iret (pc := 58) X hA (⟨le, rfl, rfl, (b_le)⟩) (by decide) (by decide) dX5_leastFor_58
      · refine g_iload_n (pc := 17) X 3 rfl dX5_leastFor_17 ?_
        refine g_iload (pc := 18) X 0 rfl dX5_leastFor_18 ?_
        refine g_ishr (pc := 20) X dX5_leastFor_20 ?_
        refine g_any (fun y1 by1 => ?_)
        refine g_iconst (pc := 21) X (iI 1) (by rfl) dX5_leastFor_21 ?_
        refine g_iandM (pc := 22) X 1 (by decide) (by decide) (by decide) dX5_leastFor_22 (fun y2 by2 => ?_)
        refine g_iconst (pc := 23) X (iI 1) (by rfl) dX5_leastFor_23 ?_
        refine g_icmp_neI (pc := 24) X 51 (by decide) (inRb by2 (by decide) (by decide)) ⟨by decide, by decide⟩ dX5_leastFor_24 (fun c24 => ?_) (fun c24 => ?_)
        · refine g_iincI (pc := 51) X 0 rfl (by decide) (lv' := [(4, .int (iI (i + 1))), (3, .int (iI le)), (0, .ref q0), (1, .int (iI se)), (2, .int (iI pi))]) rfl dX5_leastFor_51 ?_
          refine g_goto (pc := 54) X 11 (by decide) dX5_leastFor_54 ?_
          exact ih le (i + 1) (b_le) (by (first | (clear b_se b_qo b_qc b_qp b_pw b_pr b_pd b_pl b_pf b_pg; omega) | omega)) (by (first | (clear b_se b_qo b_qc b_qp b_pw b_pr b_pd b_pl b_pf b_pg; omega) | omega))
        · refine g_iload_n (pc := 27) X 1 rfl dX5_leastFor_27 ?_
          refine g_aload_n (pc := 28) X 2 rfl dX5_leastFor_28 ?_
          refine g_aload_n (pc := 29) X 2 rfl dX5_leastFor_29 ?_
          refine g_get (pc := 30) X inlX5 0 rfl rfl 5 (by decide) mw_5_2 rfl dX5_leastFor_30 ?_
          refine g_iload_n (pc := 33) X 3 rfl dX5_leastFor_33 ?_
          refine g_iconst (pc := 34) X (iI 1) (by rfl) dX5_leastFor_34 ?_
          refine g_iload (pc := 35) X 0 rfl dX5_leastFor_35 ?_
          refine g_shl1 (pc := 37) X (by (first | (clear b_se b_qo b_qc b_qp b_pw b_pr b_pd b_pl b_pf b_pg; omega) | omega)) (by (first | (clear b_se b_qo b_qc b_qp b_pw b_pr b_pd b_pl b_pf b_pg; omega) | omega)) dX5_leastFor_37 (fun y3 ey3 => ?_)
          have by3 : 1 ≤ y3 ∧ y3 ≤ 2048 := pow2B 11 (by decide) (by (first | (clear b_se b_qo b_qc b_qp b_pw b_pr b_pd b_pl b_pf b_pg; omega) | omega)) (by (first | (clear b_se b_qo b_qc b_qp b_pw b_pr b_pd b_pl b_pf b_pg; omega) | omega)) ey3
          refine g_iconst (pc := 38) X (iI (-1)) (by rfl) dX5_leastFor_38 ?_
          refine g_ixor (pc := 39) X dX5_leastFor_39 ?_
          refine g_any (fun y4 by4 => ?_)
          refine g_iandL (pc := 40) X (by (first | (clear b_se b_qo b_qc b_qp b_pw b_pr b_pd b_pl b_pf b_pg; omega) | omega)) (by (first | (clear b_se b_qo b_qc b_qp b_pw b_pr b_pd b_pl b_pf b_pg; omega) | omega)) dX5_leastFor_40 (fun y5 by5 => ?_)
          refine g_ialdI (pc := 41) X 4 rfl (by (first | (clear b_se b_qo b_qc b_qp b_pw b_pr b_pd b_pl b_pf b_pg; omega) | omega)) (by (first | (clear b_se b_qo b_qc b_qp b_pw b_pr b_pd b_pl b_pf b_pg; omega) | omega)) (by (first | (clear b_se b_qo b_qc b_qp b_pw b_pr b_pd b_pl b_pf b_pg; omega) | omega)) dX5_leastFor_41 ?_
          refine g_nameI (fun y6 ey6 => ?_)
          have by6 : (-2147483648) ≤ y6 ∧ y6 ≤ 2147483647 := by rw [ey6]; exact h_Qle _ (by (first | (clear b_se b_qo b_qc b_qp b_pw b_pr b_pd b_pl b_pf b_pg; omega) | omega))
          refine g_iload (pc := 42) X 0 rfl dX5_leastFor_42 ?_
          refine g_callV (pc := 44) X (k_X5_behind l Z q0 p0 q_used q_leastOf q_longs q_phases Qlg Qph y6 i qo qc qp pw pr pd pl pf pg by6 (by (first | (clear b_se b_qo b_qc b_qp b_pw b_pr b_pd b_pl b_pf b_pg; omega) | omega)) b_qo b_qc b_qp b_pw b_pr b_pd b_pl b_pf b_pg (h_Qlg) (h_Qph)) iM_X5_behind mw_37_9 mw_37_10 mw_37_11 0 rfl rfl [0, 1, 2, 3] [4] rfl (wr := [cA Z q_leastOf 0 4096 Qle]) rfl (by decide) rfl rfl (Nat.le_of_ble_eq_true rfl) (by decide) dX5_leastFor_44 (fun r w' hpo => ?_)
          refine exN_1 hpo fun y7 hz => anD_3 hz fun e_r e_w hf44_b_y => ?_; clear hz hpo; subst e_r; subst e_w
          refine g_as (pc' := 47) (lv' := [(4, .int (iI i)), (3, .int (iI le)), (0, .ref q0), (1, .int (iI se)), (2, .int (iI pi))]) (st' := [.int (iI y7), .int (iI le)]) (ws' := [cA Z q_leastOf 0 4096 Qle, cO_ririirrr q0 5 p0 qo q_used qc qp q_leastOf q_longs q_phases, cO_iiiiii p0 3 pw pr pd pl pf pg, cA Z q_longs 0 12 Qlg, cA Z q_phases 0 12 Qph]) rfl rfl rfl rfl ?_
          refine g_minI (pc := 47) X mw_37_8 mw_15_13 mw_25_23 mw_15_14 (by decide) (Nat.le_of_ble_eq_true rfl) (by decide) (by decide) b_le hf44_b_y dX5_leastFor_47 ?_
          refine g_nameI (fun y9 ey9 => ?_)
          have my9 : y9 ≤ le ∧ y9 ≤ y7 ∧ (y9 = le ∨ y9 = y7) := by rw [ey9]; exact minF _ _
          clear ey9
          refine g_istore_n (pc := 50) X (i := 3) rfl (by decide) (lv' := [(3, .int (iI y9)), (4, .int (iI i)), (0, .ref q0), (1, .int (iI se)), (2, .int (iI pi))]) rfl dX5_leastFor_50 ?_
          refine g_iincI (pc := 51) X 1 rfl (by decide) (lv' := [(4, .int (iI (i + 1))), (3, .int (iI y9)), (0, .ref q0), (1, .int (iI se)), (2, .int (iI pi))]) rfl dX5_leastFor_51 ?_
          refine g_goto (pc := 54) X 11 (by decide) dX5_leastFor_54 ?_
          refine g_ws (ws' := [cO_ririirrr q0 5 p0 qo q_used qc qp q_leastOf q_longs q_phases, cO_iiiiii p0 3 pw pr pd pl pf pg, cA Z q_longs 0 12 Qlg, cA Z q_phases 0 12 Qph, cA Z q_leastOf 0 4096 Qle]) [1, 2, 3, 4, 0] (by decide) rfl ?_
          exact ih y9 (i + 1) (by (first | (clear b_se b_qo b_qc b_qp b_pw b_pr b_pd b_pl b_pf b_pg; omega) | omega)) (by (first | (clear b_se b_qo b_qc b_qp b_pw b_pr b_pd b_pl b_pf b_pg; omega) | omega)) (by (first | (clear b_se b_qo b_qc b_qp b_pw b_pr b_pd b_pl b_pf b_pg; omega) | omega))
  exact loop11 _ ((pi + 1) * 4096) 0 (by (first | (clear b_se b_qo b_qc b_qp b_pw b_pr b_pd b_pl b_pf b_pg; omega) | omega)) (by (first | (clear b_se b_qo b_qc b_qp b_pw b_pr b_pd b_pl b_pf b_pg; omega) | omega)) (Nat.lt_succ_self _)

set_option maxHeartbeats 4000000 in
set_option maxRecDepth 100000 in
theorem k_X5_fewestFor (l : Launch) (Z : gZ) (q0 : Nat) (l0 : Nat) (p0 : Nat) (q_used : Nat) (q_leastOf : Nat) (q_longs : Nat) (q_phases : Nat) (r0 : Nat) (l_talls : Nat) (l_firsts : Nat) (l_stripsOf : Nat) (l_froms : Nat) (l_tos : Nat) (l_longs : Nat) (l_phases : Nat) (l_rollsOf : Nat) (l_placesOf : Nat) (Qlg : Nat → Int) (Qph : Nat → Int) (Qle : Nat → Int) (Llg : Nat → Int) (Lph : Nat → Int) (qo : Int) (qc : Int) (qp : Int) (pw : Int) (pr : Int) (pd : Int) (pl : Int) (pf : Int) (pg : Int) (ls : Int) (lb : Int) (lt : Int) (lp : Int) (lc : Int) (b_qo : 0 ≤ qo ∧ qo ≤ 2880) (b_qc : (-2147483648) ≤ qc ∧ qc ≤ 2147483647) (b_qp : (-2147483648) ≤ qp ∧ qp ≤ 2147483647) (b_pw : 20 ≤ pw ∧ pw ≤ 120) (b_pr : 10 ≤ pr ∧ pr ≤ 120) (b_pd : 0 ≤ pd ∧ pd ≤ 2) (b_pl : 300 ≤ pl ∧ pl ≤ 2000) (b_pf : 0 ≤ pf ∧ pf ≤ 119) (b_pg : 1 ≤ pg ∧ pg ≤ 120) (b_ls : 0 ≤ ls ∧ ls ≤ 4799) (b_lb : 0 ≤ lb ∧ lb ≤ 119) (b_lt : 0 ≤ lt ∧ lt ≤ 20) (b_lp : 0 ≤ lp ∧ lp ≤ 240) (b_lc : 0 ≤ lc ∧ lc ≤ 480) (h_Qlg : ∀ j, j < 12 → (-2147483648) ≤ Qlg j ∧ Qlg j ≤ 2147483647) (h_Qph : ∀ j, j < 12 → 0 ≤ Qph j ∧ Qph j ≤ 119) (h_Qle : ∀ j, j < 4096 → (-2147483648) ≤ Qle j ∧ Qle j ≤ 2147483647) (h_Llg : ∀ j, j < 480 → (-2147483648) ≤ Llg j ∧ Llg j ≤ 2147483647) (h_Lph : ∀ j, j < 480 → 0 ≤ Lph j ∧ Lph j ≤ 119) : Con l Z yX5_fewestFor cX5_fewestFor 4 (some .int) 4 92 0 0 [.ref q0, .ref l0] [cO_ririirrr q0 5 p0 qo q_used qc qp q_leastOf q_longs q_phases, cO_iiiiii p0 3 pw pr pd pl pf pg, cA Z q_longs 0 12 Qlg, cA Z q_phases 0 12 Qph, cA Z q_leastOf 0 4096 Qle, cO_rriiiirrirrrrrrr l0 2 r0 p0 ls lb lt lp l_talls l_firsts lc l_stripsOf l_froms l_tos l_longs l_phases l_rollsOf l_placesOf, cA Z l_longs 0 480 Llg, cA Z l_phases 0 480 Lph] (fun r w' => ∃ (Qlg2 : Nat → Int) (Qph2 : Nat → Int) (Qle2 : Nat → Int) (y : Int), (r = some (.int (iI y))) ∧ (w' = [cO_ririirrr q0 5 p0 qo q_used qc qp q_leastOf q_longs q_phases, cO_iiiiii p0 3 pw pr pd pl pf pg, cA Z q_longs 0 12 Qlg2, cA Z q_phases 0 12 Qph2, cA Z q_leastOf 0 4096 Qle2, cO_rriiiirrirrrrrrr l0 2 r0 p0 ls lb lt lp l_talls l_firsts lc l_stripsOf l_froms l_tos l_longs l_phases l_rollsOf l_placesOf, cA Z l_longs 0 480 Llg, cA Z l_phases 0 480 Lph]) ∧ ((-2147483648) ≤ y ∧ y ≤ 2147483647) ∧ (∀ j, j < 12 → (-2147483648) ≤ Qlg2 j ∧ Qlg2 j ≤ 2147483647) ∧ (∀ j, j < 12 → 0 ≤ Qph2 j ∧ Qph2 j ≤ 119) ∧ (∀ j, j < 4096 → (-2147483648) ≤ Qle2 j ∧ Qle2 j ≤ 2147483647)) := by
  refine enter (by decide) (Nat.le_of_ble_eq_true rfl) ?_
  intro p e s m args below meth c A X hnm hA
  have X : Cx p s m args meth c cX5_fewestFor 4 (some .int) RX5 Z A := X
  refine g_as (pc' := 0) (lv' := [(0, .ref q0), (1, .ref l0)]) (st' := []) (ws' := [cO_ririirrr q0 5 p0 qo q_used qc qp q_leastOf q_longs q_phases, cO_iiiiii p0 3 pw pr pd pl pf pg, cA Z q_longs 0 12 Qlg, cA Z q_phases 0 12 Qph, cA Z q_leastOf 0 4096 Qle, cO_rriiiirrirrrrrrr l0 2 r0 p0 ls lb lt lp l_talls l_firsts lc l_stripsOf l_froms l_tos l_longs l_phases l_rollsOf l_placesOf, cA Z l_longs 0 480 Llg, cA Z l_phases 0 480 Lph]) rfl rfl rfl rfl ?_
  refine g_aload_n (pc := 0) X 1 rfl dX5_fewestFor_0 ?_
  refine g_ifnull (pc := 1) X dX5_fewestFor_1 ?_
  refine g_aload_n (pc := 4) X 1 rfl dX5_fewestFor_4 ?_
  refine g_get (pc := 5) X inlX2 5 rfl rfl 8 (by decide) mw_37_1 rfl dX5_fewestFor_5 ?_
  refine g_bipush (pc := 8) X (iI 12) (by decide) dX5_fewestFor_8 ?_
  refine g_icmp_leI (pc := 10) X 15 (by decide) (inRb b_lc (by decide) (by decide)) ⟨by decide, by decide⟩ dX5_fewestFor_10 (fun c10 => ?_) (fun c10 => ?_)
  · refine g_iconst (pc := 15) X (iI 0) (by rfl) dX5_fewestFor_15 ?_
    refine g_istore_n (pc := 16) X (i := 2) rfl (by decide) (lv' := [(2, .int (iI 0)), (0, .ref q0), (1, .ref l0)]) rfl dX5_fewestFor_16 ?_
    have loop17 : ∀ (fuel : Nat) (i : Int) (Qlg1 : Nat → Int) (Qph1 : Nat → Int), (0 ≤ i ∧ i ≤ 12) → (∀ j, j < 12 → (-2147483648) ≤ Qlg1 j ∧ Qlg1 j ≤ 2147483647) → (∀ j, j < 12 → 0 ≤ Qph1 j ∧ Qph1 j ≤ 119) → (13 - i).toNat < fuel → Gs p l e ({ frames := 4, cells := 0, slots := 0, locals := 92 } : Room) s m args below meth c (MQ below (gPost Z [cO_ririirrr q0 5 p0 qo q_used qc qp q_leastOf q_longs q_phases, cO_iiiiii p0 3 pw pr pd pl pf pg, cA Z q_longs 0 12 Qlg, cA Z q_phases 0 12 Qph, cA Z q_leastOf 0 4096 Qle, cO_rriiiirrirrrrrrr l0 2 r0 p0 ls lb lt lp l_talls l_firsts lc l_stripsOf l_froms l_tos l_longs l_phases l_rollsOf l_placesOf, cA Z l_longs 0 480 Llg, cA Z l_phases 0 480 Lph] s.heap.size (fun r w' => ∃ (Qlg2 : Nat → Int) (Qph2 : Nat → Int) (Qle2 : Nat → Int) (y : Int), (r = some (.int (iI y))) ∧ (w' = [cO_ririirrr q0 5 p0 qo q_used qc qp q_leastOf q_longs q_phases, cO_iiiiii p0 3 pw pr pd pl pf pg, cA Z q_longs 0 12 Qlg2, cA Z q_phases 0 12 Qph2, cA Z q_leastOf 0 4096 Qle2, cO_rriiiirrirrrrrrr l0 2 r0 p0 ls lb lt lp l_talls l_firsts lc l_stripsOf l_froms l_tos l_longs l_phases l_rollsOf l_placesOf, cA Z l_longs 0 480 Llg, cA Z l_phases 0 480 Lph]) ∧ ((-2147483648) ≤ y ∧ y ≤ 2147483647) ∧ (∀ j, j < 12 → (-2147483648) ≤ Qlg2 j ∧ Qlg2 j ≤ 2147483647) ∧ (∀ j, j < 12 → 0 ≤ Qph2 j ∧ Qph2 j ≤ 119) ∧ (∀ j, j < 4096 → (-2147483648) ≤ Qle2 j ∧ Qle2 j ≤ 2147483647))) args s 0 0 (va_A [cO_ririirrr q0 5 p0 qo q_used qc qp q_leastOf q_longs q_phases, cO_iiiiii p0 3 pw pr pd pl pf pg, cA Z q_longs 0 12 Qlg, cA Z q_phases 0 12 Qph, cA Z q_leastOf 0 4096 Qle, cO_rriiiirrirrrrrrr l0 2 r0 p0 ls lb lt lp l_talls l_firsts lc l_stripsOf l_froms l_tos l_longs l_phases l_rollsOf l_placesOf, cA Z l_longs 0 480 Llg, cA Z l_phases 0 480 Lph] s.heap.size)) Z A 4 0 0 17 [(2, .int (iI i)), (0, .ref q0), (1, .ref l0)] [] [cO_ririirrr q0 5 p0 qo q_used qc qp q_leastOf q_longs q_phases, cO_iiiiii p0 3 pw pr pd pl pf pg, cA Z q_longs 0 12 Qlg1, cA Z q_phases 0 12 Qph1, cA Z q_leastOf 0 4096 Qle, cO_rriiiirrirrrrrrr l0 2 r0 p0 ls lb lt lp l_talls l_firsts lc l_stripsOf l_froms l_tos l_longs l_phases l_rollsOf l_placesOf, cA Z l_longs 0 480 Llg, cA Z l_phases 0 480 Lph] := by
      intro fuel
      induction fuel with
      | zero => intro i Qlg1 Qph1 _ _ _ hm; exact absurd hm (Nat.not_lt_zero _)
      | succ fuel ih =>
        intro i Qlg1 Qph1 b_i h_Qlg1 h_Qph1 hm
        refine g_iload_n (pc := 17) X 0 rfl dX5_fewestFor_17 ?_
        refine g_aload_n (pc := 18) X 2 rfl dX5_fewestFor_18 ?_
        refine g_get (pc := 19) X inlX2 5 rfl rfl 8 (by decide) mw_37_1 rfl dX5_fewestFor_19 ?_
        refine g_icmp_geI (pc := 22) X 55 (by decide) (inRb b_i (by decide) (by decide)) (inRb b_lc (by decide) (by decide)) dX5_fewestFor_22 (fun c22 => ?_) (fun c22 => ?_)
        · refine g_iconst (pc := 55) X (iI 1) (by rfl) dX5_fewestFor_55 ?_
          refine g_aload_n (pc := 56) X 2 rfl dX5_fewestFor_56 ?_
          refine g_get (pc := 57) X inlX2 5 rfl rfl 8 (by decide) mw_37_1 rfl dX5_fewestFor_57 ?_
          refine g_shl1 (pc := 60) X (by (first | (clear b_qo b_qc b_qp b_pw b_pr b_pd b_pl b_pf b_pg b_ls b_lb b_lt b_lp b_lc; omega) | omega)) (by (first | (clear b_qo b_qc b_qp b_pw b_pr b_pd b_pl b_pf b_pg b_ls b_lb b_lt b_lp b_lc; omega) | omega)) dX5_fewestFor_60 (fun y1 ey1 => ?_)
          have by1 : 1 ≤ y1 ∧ y1 ≤ 4096 := pow2B 12 (by decide) (by (first | (clear b_qo b_qc b_qp b_pw b_pr b_pd b_pl b_pf b_pg b_ls b_lb b_lt b_lp b_lc; omega) | omega)) (by (first | (clear b_qo b_qc b_qp b_pw b_pr b_pd b_pl b_pf b_pg b_ls b_lb b_lt b_lp b_lc; omega) | omega)) ey1
          refine g_istore_n (pc := 61) X (i := 2) rfl (by decide) (lv' := [(2, .int (iI y1)), (0, .ref q0), (1, .ref l0)]) rfl dX5_fewestFor_61 ?_
          refine g_aload_n (pc := 62) X 1 rfl dX5_fewestFor_62 ?_
          refine g_get (pc := 63) X inlX5 0 rfl rfl 5 (by decide) mw_5_2 rfl dX5_fewestFor_63 ?_
          refine g_iconst (pc := 66) X (iI 0) (by rfl) dX5_fewestFor_66 ?_
          refine g_aload_n (pc := 67) X 1 rfl dX5_fewestFor_67 ?_
          refine g_get (pc := 68) X inlX5 0 rfl rfl 0 (by decide) mw_34_11 rfl dX5_fewestFor_68 ?_
          refine g_get (pc := 71) X inlX3 1 rfl rfl 3 (by decide) mw_34_23 rfl dX5_fewestFor_71 ?_
          refine g_iastG (pc := 74) X 4 rfl (by decide) (by decide) (by decide) (ws' := fun F2 => [cO_ririirrr q0 5 p0 qo q_used qc qp q_leastOf q_longs q_phases, cO_iiiiii p0 3 pw pr pd pl pf pg, cA Z q_longs 0 12 Qlg1, cA Z q_phases 0 12 Qph1, cA Z q_leastOf 0 4096 F2, cO_rriiiirrirrrrrrr l0 2 r0 p0 ls lb lt lp l_talls l_firsts lc l_stripsOf l_froms l_tos l_longs l_phases l_rollsOf l_placesOf, cA Z l_longs 0 480 Llg, cA Z l_phases 0 480 Lph]) (fun _ => rfl) dX5_fewestFor_74 (fun F2 eF2 => ?_)
          have hF2 : ∀ j, j < 4096 → (-2147483648) ≤ F2 j ∧ F2 j ≤ 2147483647 := by rw [eF2]; exact updI_B h_Qle (by (first | (clear b_qo b_qc b_qp b_pw b_pr b_pd b_pl b_pf b_pg b_ls b_lb b_lt b_lp b_lc; omega) | omega))
          refine g_iconst (pc := 75) X (iI 1) (by rfl) dX5_fewestFor_75 ?_
          refine g_istore_n (pc := 76) X (i := 3) rfl (by decide) (lv' := [(3, .int (iI 1)), (2, .int (iI y1)), (0, .ref q0), (1, .ref l0)]) rfl dX5_fewestFor_76 ?_
          have loop77 : ∀ (fuel : Nat) (i : Int) (Qle1 : Nat → Int), (1 ≤ i ∧ i ≤ 4096) → (∀ j, j < 4096 → (-2147483648) ≤ Qle1 j ∧ Qle1 j ≤ 2147483647) → (4097 - i).toNat < fuel → Gs p l e ({ frames := 4, cells := 0, slots := 0, locals := 92 } : Room) s m args below meth c (MQ below (gPost Z [cO_ririirrr q0 5 p0 qo q_used qc qp q_leastOf q_longs q_phases, cO_iiiiii p0 3 pw pr pd pl pf pg, cA Z q_longs 0 12 Qlg, cA Z q_phases 0 12 Qph, cA Z q_leastOf 0 4096 Qle, cO_rriiiirrirrrrrrr l0 2 r0 p0 ls lb lt lp l_talls l_firsts lc l_stripsOf l_froms l_tos l_longs l_phases l_rollsOf l_placesOf, cA Z l_longs 0 480 Llg, cA Z l_phases 0 480 Lph] s.heap.size (fun r w' => ∃ (Qlg2 : Nat → Int) (Qph2 : Nat → Int) (Qle2 : Nat → Int) (y : Int), (r = some (.int (iI y))) ∧ (w' = [cO_ririirrr q0 5 p0 qo q_used qc qp q_leastOf q_longs q_phases, cO_iiiiii p0 3 pw pr pd pl pf pg, cA Z q_longs 0 12 Qlg2, cA Z q_phases 0 12 Qph2, cA Z q_leastOf 0 4096 Qle2, cO_rriiiirrirrrrrrr l0 2 r0 p0 ls lb lt lp l_talls l_firsts lc l_stripsOf l_froms l_tos l_longs l_phases l_rollsOf l_placesOf, cA Z l_longs 0 480 Llg, cA Z l_phases 0 480 Lph]) ∧ ((-2147483648) ≤ y ∧ y ≤ 2147483647) ∧ (∀ j, j < 12 → (-2147483648) ≤ Qlg2 j ∧ Qlg2 j ≤ 2147483647) ∧ (∀ j, j < 12 → 0 ≤ Qph2 j ∧ Qph2 j ≤ 119) ∧ (∀ j, j < 4096 → (-2147483648) ≤ Qle2 j ∧ Qle2 j ≤ 2147483647))) args s 0 0 (va_A [cO_ririirrr q0 5 p0 qo q_used qc qp q_leastOf q_longs q_phases, cO_iiiiii p0 3 pw pr pd pl pf pg, cA Z q_longs 0 12 Qlg, cA Z q_phases 0 12 Qph, cA Z q_leastOf 0 4096 Qle, cO_rriiiirrirrrrrrr l0 2 r0 p0 ls lb lt lp l_talls l_firsts lc l_stripsOf l_froms l_tos l_longs l_phases l_rollsOf l_placesOf, cA Z l_longs 0 480 Llg, cA Z l_phases 0 480 Lph] s.heap.size)) Z A 4 0 0 77 [(3, .int (iI i)), (2, .int (iI y1)), (0, .ref q0), (1, .ref l0)] [] [cO_ririirrr q0 5 p0 qo q_used qc qp q_leastOf q_longs q_phases, cO_iiiiii p0 3 pw pr pd pl pf pg, cA Z q_longs 0 12 Qlg1, cA Z q_phases 0 12 Qph1, cA Z q_leastOf 0 4096 Qle1, cO_rriiiirrirrrrrrr l0 2 r0 p0 ls lb lt lp l_talls l_firsts lc l_stripsOf l_froms l_tos l_longs l_phases l_rollsOf l_placesOf, cA Z l_longs 0 480 Llg, cA Z l_phases 0 480 Lph] := by
            intro fuel
            induction fuel with
            | zero => intro i Qle1 _ _ hm; exact absurd hm (Nat.not_lt_zero _)
            | succ fuel ih =>
              intro i Qle1 b_i h_Qle1 hm
              refine g_iload_n (pc := 77) X 0 rfl dX5_fewestFor_77 ?_
              refine g_iload_n (pc := 78) X 1 rfl dX5_fewestFor_78 ?_
              refine g_icmp_geI (pc := 79) X 103 (by decide) (inRb b_i (by decide) (by decide)) ⟨by (first | (clear b_qo b_qc b_qp b_pw b_pr b_pd b_pl b_pf b_pg b_ls b_lb b_lt b_lp b_lc; omega) | omega), by (first | (clear b_qo b_qc b_qp b_pw b_pr b_pd b_pl b_pf b_pg b_ls b_lb b_lt b_lp b_lc; omega) | omega)⟩ dX5_fewestFor_79 (fun c79 => ?_) (fun c79 => ?_)
              · refine g_aload_n (pc := 103) X 2 rfl dX5_fewestFor_103 ?_
                refine g_get (pc := 104) X inlX5 0 rfl rfl 5 (by decide) mw_5_2 rfl dX5_fewestFor_104 ?_
                refine g_iload_n (pc := 107) X 1 rfl dX5_fewestFor_107 ?_
                refine g_iconst (pc := 108) X (iI 1) (by rfl) dX5_fewestFor_108 ?_
                refine g_isubI (pc := 109) X dX5_fewestFor_109 ?_
                refine g_ialdI (pc := 110) X 4 rfl (by (first | (clear b_qo b_qc b_qp b_pw b_pr b_pd b_pl b_pf b_pg b_ls b_lb b_lt b_lp b_lc; omega) | omega)) (by (first | (clear b_qo b_qc b_qp b_pw b_pr b_pd b_pl b_pf b_pg b_ls b_lb b_lt b_lp b_lc; omega) | omega)) (by (first | (clear b_qo b_qc b_qp b_pw b_pr b_pd b_pl b_pf b_pg b_ls b_lb b_lt b_lp b_lc; omega) | omega)) dX5_fewestFor_110 ?_
                refine g_nameI (fun y3 ey3 => ?_)
                have by3 : (-2147483648) ≤ y3 ∧ y3 ≤ 2147483647 := by rw [ey3]; exact h_Qle1 _ (by (first | (clear b_qo b_qc b_qp b_pw b_pr b_pd b_pl b_pf b_pg b_ls b_lb b_lt b_lp b_lc; omega) | omega))
                refine g_sipush (pc := 111) X (iI 4096) (by decide) dX5_fewestFor_111 ?_
                refine g_idivI (pc := 114) X by3 ⟨by decide, by decide⟩ (by decide) (by decide) dX5_fewestFor_114 ?_
                refine g_any (fun y4 by4 => ?_)
                exact g_iret (pc := 115) X hA (⟨Qlg1, Qph1, Qle1, y4, rfl, rfl, (by4), (h_Qlg1), (h_Qph1), (h_Qle1)⟩) (by decide) (by decide) dX5_fewestFor_115
              · refine g_aload_n (pc := 82) X 2 rfl dX5_fewestFor_82 ?_
                refine g_get (pc := 83) X inlX5 0 rfl rfl 5 (by decide) mw_5_2 rfl dX5_fewestFor_83 ?_
                refine g_iload_n (pc := 86) X 0 rfl dX5_fewestFor_86 ?_
                refine g_aload_n (pc := 87) X 2 rfl dX5_fewestFor_87 ?_
                refine g_iload_n (pc := 88) X 0 rfl dX5_fewestFor_88 ?_
                refine g_aload_n (pc := 89) X 3 rfl dX5_fewestFor_89 ?_
                refine g_get (pc := 90) X inlX2 5 rfl rfl 8 (by decide) mw_37_1 rfl dX5_fewestFor_90 ?_
                refine g_callV (pc := 93) X (k_X5_leastFor l Z q0 p0 q_used q_leastOf q_longs q_phases Qlg1 Qph1 Qle1 i lc qo qc qp pw pr pd pl pf pg (by (first | (clear b_qo b_qc b_qp b_pw b_pr b_pd b_pl b_pf b_pg b_ls b_lb b_lt b_lp b_lc; omega) | omega)) (by (first | (clear b_qo b_qc b_qp b_pw b_pr b_pd b_pl b_pf b_pg b_ls b_lb b_lt b_lp b_lc; omega) | omega)) b_qo b_qc b_qp b_pw b_pr b_pd b_pl b_pf b_pg (h_Qlg1) (h_Qph1) (h_Qle1)) iM_X5_leastFor mw_37_4 mw_37_5 mw_37_6 0 rfl rfl [0, 1, 2, 3, 4] [5, 6, 7] rfl (wr := [cO_rriiiirrirrrrrrr l0 2 r0 p0 ls lb lt lp l_talls l_firsts lc l_stripsOf l_froms l_tos l_longs l_phases l_rollsOf l_placesOf, cA Z l_longs 0 480 Llg, cA Z l_phases 0 480 Lph]) rfl (by decide) rfl rfl (Nat.le_of_ble_eq_true rfl) (by decide) dX5_fewestFor_93 (fun r w' hpo => ?_)
                refine exN_1 hpo fun y5 hz => anD_3 hz fun e_r e_w hf93_b_y => ?_; clear hz hpo; subst e_r; subst e_w
                refine g_as (pc' := 96) (lv' := [(3, .int (iI i)), (2, .int (iI y1)), (0, .ref q0), (1, .ref l0)]) (st' := [.int (iI y5), .int (iI i), .ref q_leastOf]) (ws' := [cO_rriiiirrirrrrrrr l0 2 r0 p0 ls lb lt lp l_talls l_firsts lc l_stripsOf l_froms l_tos l_longs l_phases l_rollsOf l_placesOf, cA Z l_longs 0 480 Llg, cA Z l_phases 0 480 Lph, cO_ririirrr q0 5 p0 qo q_used qc qp q_leastOf q_longs q_phases, cO_iiiiii p0 3 pw pr pd pl pf pg, cA Z q_longs 0 12 Qlg1, cA Z q_phases 0 12 Qph1, cA Z q_leastOf 0 4096 Qle1]) rfl rfl rfl rfl ?_
                refine g_iastG (pc := 96) X 7 rfl (Int.le_trans (by decide) b_i.1) (by (first | (clear b_qo b_qc b_qp b_pw b_pr b_pd b_pl b_pf b_pg b_ls b_lb b_lt b_lp b_lc; omega) | omega)) (Int.le_trans b_i.2 (by decide)) (ws' := fun F7 => [cO_rriiiirrirrrrrrr l0 2 r0 p0 ls lb lt lp l_talls l_firsts lc l_stripsOf l_froms l_tos l_longs l_phases l_rollsOf l_placesOf, cA Z l_longs 0 480 Llg, cA Z l_phases 0 480 Lph, cO_ririirrr q0 5 p0 qo q_used qc qp q_leastOf q_longs q_phases, cO_iiiiii p0 3 pw pr pd pl pf pg, cA Z q_longs 0 12 Qlg1, cA Z q_phases 0 12 Qph1, cA Z q_leastOf 0 4096 F7]) (fun _ => rfl) dX5_fewestFor_96 (fun F7 eF7 => ?_)
                have hF7 : ∀ j, j < 4096 → (-2147483648) ≤ F7 j ∧ F7 j ≤ 2147483647 := by rw [eF7]; exact updI_B h_Qle1 (by (first | (clear b_qo b_qc b_qp b_pw b_pr b_pd b_pl b_pf b_pg b_ls b_lb b_lt b_lp b_lc; omega) | omega))
                refine g_iincI (pc := 97) X 0 rfl (by decide) (lv' := [(3, .int (iI (i + 1))), (2, .int (iI y1)), (0, .ref q0), (1, .ref l0)]) rfl dX5_fewestFor_97 ?_
                refine g_goto (pc := 100) X 77 (by decide) dX5_fewestFor_100 ?_
                refine g_ws (ws' := [cO_ririirrr q0 5 p0 qo q_used qc qp q_leastOf q_longs q_phases, cO_iiiiii p0 3 pw pr pd pl pf pg, cA Z q_longs 0 12 Qlg1, cA Z q_phases 0 12 Qph1, cA Z q_leastOf 0 4096 F7, cO_rriiiirrirrrrrrr l0 2 r0 p0 ls lb lt lp l_talls l_firsts lc l_stripsOf l_froms l_tos l_longs l_phases l_rollsOf l_placesOf, cA Z l_longs 0 480 Llg, cA Z l_phases 0 480 Lph]) [3, 4, 5, 6, 7, 0, 1, 2] (by decide) rfl ?_
                exact ih (i + 1) F7 (by (first | (clear b_qo b_qc b_qp b_pw b_pr b_pd b_pl b_pf b_pg b_ls b_lb b_lt b_lp b_lc; omega) | omega)) (hF7) (by (first | (clear b_qo b_qc b_qp b_pw b_pr b_pd b_pl b_pf b_pg b_ls b_lb b_lt b_lp b_lc; omega) | omega))
          exact loop77 _ 1 F2 (by (first | (clear b_qo b_qc b_qp b_pw b_pr b_pd b_pl b_pf b_pg b_ls b_lb b_lt b_lp b_lc; omega) | omega)) (hF2) (Nat.lt_succ_self _)
        · refine g_aload_n (pc := 25) X 1 rfl dX5_fewestFor_25 ?_
          refine g_get (pc := 26) X inlX5 0 rfl rfl 6 (by decide) mw_5_3 rfl dX5_fewestFor_26 ?_
          refine g_iload_n (pc := 29) X 0 rfl dX5_fewestFor_29 ?_
          refine g_aload_n (pc := 30) X 2 rfl dX5_fewestFor_30 ?_
          refine g_get (pc := 31) X inlX2 5 rfl rfl 12 (by decide) mw_37_2 rfl dX5_fewestFor_31 ?_
          refine g_iload_n (pc := 34) X 0 rfl dX5_fewestFor_34 ?_
          refine g_ialdI (pc := 35) X 6 rfl (b_i.1) (Int.lt_of_le_of_lt b_i.2 (by decide)) (Int.le_trans b_i.2 (by decide)) dX5_fewestFor_35 ?_
          refine g_nameI (fun y8 ey8 => ?_)
          have by8 : (-2147483648) ≤ y8 ∧ y8 ≤ 2147483647 := by rw [ey8]; exact h_Llg _ (by (first | (clear b_qo b_qc b_qp b_pw b_pr b_pd b_pl b_pf b_pg b_ls b_lb b_lt b_lp b_lc; omega) | omega))
          refine g_iastG (pc := 36) X 2 rfl (b_i.1) (by (first | (clear b_qo b_qc b_qp b_pw b_pr b_pd b_pl b_pf b_pg b_ls b_lb b_lt b_lp b_lc; omega) | omega)) (Int.le_trans b_i.2 (by decide)) (ws' := fun F9 => [cO_ririirrr q0 5 p0 qo q_used qc qp q_leastOf q_longs q_phases, cO_iiiiii p0 3 pw pr pd pl pf pg, cA Z q_longs 0 12 F9, cA Z q_phases 0 12 Qph1, cA Z q_leastOf 0 4096 Qle, cO_rriiiirrirrrrrrr l0 2 r0 p0 ls lb lt lp l_talls l_firsts lc l_stripsOf l_froms l_tos l_longs l_phases l_rollsOf l_placesOf, cA Z l_longs 0 480 Llg, cA Z l_phases 0 480 Lph]) (fun _ => rfl) dX5_fewestFor_36 (fun F9 eF9 => ?_)
          have hF9 : ∀ j, j < 12 → (-2147483648) ≤ F9 j ∧ F9 j ≤ 2147483647 := by rw [eF9]; exact updI_B h_Qlg1 (by (first | (clear b_qo b_qc b_qp b_pw b_pr b_pd b_pl b_pf b_pg b_ls b_lb b_lt b_lp b_lc; omega) | omega))
          refine g_aload_n (pc := 37) X 1 rfl dX5_fewestFor_37 ?_
          refine g_get (pc := 38) X inlX5 0 rfl rfl 7 (by decide) mw_5_4 rfl dX5_fewestFor_38 ?_
          refine g_iload_n (pc := 41) X 0 rfl dX5_fewestFor_41 ?_
          refine g_aload_n (pc := 42) X 2 rfl dX5_fewestFor_42 ?_
          refine g_get (pc := 43) X inlX2 5 rfl rfl 13 (by decide) mw_37_3 rfl dX5_fewestFor_43 ?_
          refine g_iload_n (pc := 46) X 0 rfl dX5_fewestFor_46 ?_
          refine g_ialdI (pc := 47) X 7 rfl (b_i.1) (Int.lt_of_le_of_lt b_i.2 (by decide)) (Int.le_trans b_i.2 (by decide)) dX5_fewestFor_47 ?_
          refine g_nameI (fun y10 ey10 => ?_)
          have by10 : 0 ≤ y10 ∧ y10 ≤ 119 := by rw [ey10]; exact h_Lph _ (by (first | (clear b_qo b_qc b_qp b_pw b_pr b_pd b_pl b_pf b_pg b_ls b_lb b_lt b_lp b_lc; omega) | omega))
          refine g_iastG (pc := 48) X 3 rfl (b_i.1) (by (first | (clear b_qo b_qc b_qp b_pw b_pr b_pd b_pl b_pf b_pg b_ls b_lb b_lt b_lp b_lc; omega) | omega)) (Int.le_trans b_i.2 (by decide)) (ws' := fun F11 => [cO_ririirrr q0 5 p0 qo q_used qc qp q_leastOf q_longs q_phases, cO_iiiiii p0 3 pw pr pd pl pf pg, cA Z q_longs 0 12 F9, cA Z q_phases 0 12 F11, cA Z q_leastOf 0 4096 Qle, cO_rriiiirrirrrrrrr l0 2 r0 p0 ls lb lt lp l_talls l_firsts lc l_stripsOf l_froms l_tos l_longs l_phases l_rollsOf l_placesOf, cA Z l_longs 0 480 Llg, cA Z l_phases 0 480 Lph]) (fun _ => rfl) dX5_fewestFor_48 (fun F11 eF11 => ?_)
          have hF11 : ∀ j, j < 12 → 0 ≤ F11 j ∧ F11 j ≤ 119 := by rw [eF11]; exact updI_B h_Qph1 (by (first | (clear b_qo b_qc b_qp b_pw b_pr b_pd b_pl b_pf b_pg b_ls b_lb b_lt b_lp b_lc; omega) | omega))
          refine g_iincI (pc := 49) X 0 rfl (by decide) (lv' := [(2, .int (iI (i + 1))), (0, .ref q0), (1, .ref l0)]) rfl dX5_fewestFor_49 ?_
          refine g_goto (pc := 52) X 17 (by decide) dX5_fewestFor_52 ?_
          exact ih (i + 1) F9 F11 (by (first | (clear b_qo b_qc b_qp b_pw b_pr b_pd b_pl b_pf b_pg b_ls b_lb b_lt b_lp b_lc; omega) | omega)) (hF9) (hF11) (by (first | (clear b_qo b_qc b_qp b_pw b_pr b_pd b_pl b_pf b_pg b_ls b_lb b_lt b_lp b_lc; omega) | omega))
    exact loop17 _ 0 Qlg Qph (by (first | (clear b_qo b_qc b_qp b_pw b_pr b_pd b_pl b_pf b_pg b_ls b_lb b_lt b_lp b_lc; omega) | omega)) (h_Qlg) (h_Qph) (Nat.lt_succ_self _)
  · refine g_iconst (pc := 13) X (iI (-1)) (by rfl) dX5_fewestFor_13 ?_
    exact g_iret (pc := 14) X hA (⟨Qlg, Qph, Qle, (-1), rfl, rfl, (by (first | (clear b_qo b_qc b_qp b_pw b_pr b_pd b_pl b_pf b_pg b_ls b_lb b_lt b_lp b_lc; omega) | omega)), (h_Qlg), (h_Qph), (h_Qle)⟩) (by decide) (by decide) dX5_fewestFor_14
