set_option maxHeartbeats 4000000 in
set_option maxRecDepth 100000 in
theorem k_X3_stripsFor (l : Launch) (Z : gZ) (p0 : Nat) (ro_ : Int) (pw : Int) (pr : Int) (pd : Int) (pl : Int) (pf : Int) (pg : Int) (b_ro_ : 0 ≤ ro_ ∧ ro_ ≤ 4800) (b_pw : 20 ≤ pw ∧ pw ≤ 120) (b_pr : 10 ≤ pr ∧ pr ≤ 120) (b_pd : 0 ≤ pd ∧ pd ≤ 2) (b_pl : 300 ≤ pl ∧ pl ≤ 2000) (b_pf : 0 ≤ pf ∧ pf ≤ 119) (b_pg : 1 ≤ pg ∧ pg ≤ 120) : Con l Z yX3_stripsFor cX3_stripsFor 2 (some .int) 1 21 0 0 [.ref p0, .int (iI ro_)] [cO_iiiiii p0 3 pw pr pd pl pf pg] (fun r w' => ∃ (y : Int), (r = some (.int (iI y))) ∧ (w' = [cO_iiiiii p0 3 pw pr pd pl pf pg]) ∧ (0 ≤ y ∧ y ≤ 240) ∧ (y = (ro_ + pw - 1) / pw)) := by
  refine enter (by decide) (Nat.le_of_ble_eq_true rfl) ?_
  intro p e s m args below meth c A X hnm hA
  have X : Cx p s m args meth c cX3_stripsFor 2 (some .int) RX3 Z A := X
  refine g_as (pc' := 0) (lv' := [(0, .ref p0), (1, .int (iI ro_))]) (st' := []) (ws' := [cO_iiiiii p0 3 pw pr pd pl pf pg]) rfl rfl rfl rfl ?_
  refine g_iload_n (pc := 0) X 1 rfl dX3_stripsFor_0 ?_
  refine g_aload_n (pc := 1) X 0 rfl dX3_stripsFor_1 ?_
  refine g_get (pc := 2) X inlX3 0 rfl rfl 0 (by decide) mw_24_14 rfl dX3_stripsFor_2 ?_
  refine g_callSN (pc := 5) X (k_X11_cutUp l Z ro_ pw (by (first | (clear b_pr b_pd b_pl b_pf b_pg; omega) | omega)) (by (first | (clear b_pr b_pd b_pl b_pf b_pg; omega) | omega))) iM_X11_cutUp (by decide) mw_24_15 [] [0] rfl (wr := [cO_iiiiii p0 3 pw pr pd pl pf pg]) rfl (by decide) rfl rfl (Nat.le_of_ble_eq_true rfl) (by decide) dX3_stripsFor_5 (fun r w' hpo => ?_)
  refine exN_1 hpo fun y1 hz => anD_5 hz fun e_r e_w hf5_b_y hf5_f1 hf5_f2 => ?_; clear hz hpo; subst e_r; subst e_w
  refine g_as (pc' := 8) (lv' := [(0, .ref p0), (1, .int (iI ro_))]) (st' := [.int (iI y1)]) (ws' := [cO_iiiiii p0 3 pw pr pd pl pf pg]) rfl rfl rfl rfl ?_
  exact g_iret (pc := 8) X hA (⟨y1, rfl, rfl, (stripsB (by (first | (clear b_pr b_pd b_pl b_pf b_pg; omega) | omega)) (by (first | (clear b_pr b_pd b_pl b_pf b_pg; omega) | omega)) (by (first | (clear b_pr b_pd b_pl b_pf b_pg; omega) | omega)) (hf5_f1 (by (first | (clear b_pr b_pd b_pl b_pf b_pg; omega) | omega)))), (hf5_f1 (by (first | (clear b_pr b_pd b_pl b_pf b_pg; omega) | omega)))⟩) (by decide) (by decide) dX3_stripsFor_8

set_option maxHeartbeats 4000000 in
set_option maxRecDepth 100000 in
theorem k_X3_offsetOf (l : Launch) (Z : gZ) (p0 : Nat) (sp : Int) (ba : Int) (pw : Int) (pr : Int) (pd : Int) (pl : Int) (pf : Int) (pg : Int) (b_sp : (-2147483648) ≤ sp ∧ sp ≤ 2147483647) (b_ba : (-2147483648) ≤ ba ∧ ba ≤ 2147483647) (b_pw : 20 ≤ pw ∧ pw ≤ 120) (b_pr : 10 ≤ pr ∧ pr ≤ 120) (b_pd : 0 ≤ pd ∧ pd ≤ 2) (b_pl : 300 ≤ pl ∧ pl ≤ 2000) (b_pf : 0 ≤ pf ∧ pf ≤ 119) (b_pg : 1 ≤ pg ∧ pg ≤ 120) : Con l Z yX3_offsetOf cX3_offsetOf 4 (some .int) 1 22 0 0 [.ref p0, .int (iI sp), .int (iI ba)] [cO_iiiiii p0 3 pw pr pd pl pf pg] (fun r w' => ∃ (y : Int), (r = some (.int (iI y))) ∧ (w' = [cO_iiiiii p0 3 pw pr pd pl pf pg]) ∧ (0 ≤ y ∧ y ≤ 119)) := by
  refine enter (by decide) (Nat.le_of_ble_eq_true rfl) ?_
  intro p e s m args below meth c A X hnm hA
  have X : Cx p s m args meth c cX3_offsetOf 4 (some .int) RX3 Z A := X
  refine g_as (pc' := 0) (lv' := [(0, .ref p0), (1, .int (iI sp)), (2, .int (iI ba))]) (st' := []) (ws' := [cO_iiiiii p0 3 pw pr pd pl pf pg]) rfl rfl rfl rfl ?_
  refine g_aload_n (pc := 0) X 0 rfl dX3_offsetOf_0 ?_
  refine g_get (pc := 1) X inlX3 0 rfl rfl 2 (by decide) mw_26_22 rfl dX3_offsetOf_1 ?_
  refine g_iconst (pc := 4) X (iI 1) (by rfl) dX3_offsetOf_4 ?_
  refine g_icmp_neI (pc := 5) X 19 (by decide) (inRb b_pd (by decide) (by decide)) ⟨by decide, by decide⟩ dX3_offsetOf_5 (fun c5 => ?_) (fun c5 => ?_)
  · refine g_iconst (pc := 19) X (iI 0) (by rfl) dX3_offsetOf_19 ?_
    refine g_istore_n (pc := 20) X (i := 3) rfl (by decide) (lv' := [(3, .int (iI 0)), (0, .ref p0), (1, .int (iI sp)), (2, .int (iI ba))]) rfl dX3_offsetOf_20 ?_
    refine g_iload_n (pc := 21) X 0 rfl dX3_offsetOf_21 ?_
    refine g_if_eqI (pc := 22) X 36 (by decide) ⟨by decide, by decide⟩ dX3_offsetOf_22 (fun _ => ?_) (fun h => absurd h (by decide))
    refine g_iload_n (pc := 36) X 3 rfl dX3_offsetOf_36 ?_
    refine g_aload_n (pc := 37) X 1 rfl dX3_offsetOf_37 ?_
    refine g_get (pc := 38) X inlX3 0 rfl rfl 1 (by decide) mw_26_23 rfl dX3_offsetOf_38 ?_
    refine g_callSN (pc := 41) X (k_X11_rest l Z ba pr b_ba (by (first | (clear b_sp b_ba b_pw b_pr b_pd b_pl b_pf b_pg; omega) | omega))) iM_X11_rest (by decide) mw_25_3 [] [0] rfl (wr := [cO_iiiiii p0 3 pw pr pd pl pf pg]) rfl (by decide) rfl rfl (Nat.le_of_ble_eq_true rfl) (by decide) dX3_offsetOf_41 (fun r w' hpo => ?_)
    refine exN_1 hpo fun y1 hz => anD_7 hz fun e_r e_w hf41_b_y hf41_f1 hf41_f2 hf41_f3 hf41_f4 => ?_; clear hz hpo; subst e_r; subst e_w
    refine g_as (pc' := 44) (lv' := [(3, .int (iI 0)), (0, .ref p0), (1, .int (iI sp)), (2, .int (iI ba))]) (st' := [.int (iI y1)]) (ws' := [cO_iiiiii p0 3 pw pr pd pl pf pg]) rfl rfl rfl rfl ?_
    exact g_iret (pc := 44) X hA (⟨y1, rfl, rfl, (by (first | (clear b_sp b_ba b_pw b_pr b_pd b_pl b_pf b_pg; omega) | omega))⟩) (by decide) (by decide) dX3_offsetOf_44
  · refine g_iload_n (pc := 8) X 1 rfl dX3_offsetOf_8 ?_
    refine g_iconst (pc := 9) X (iI 1) (by rfl) dX3_offsetOf_9 ?_
    refine g_iandM (pc := 10) X 1 (by decide) (by decide) (by decide) dX3_offsetOf_10 (fun y3 by3 => ?_)
    refine g_iconst (pc := 11) X (iI 1) (by rfl) dX3_offsetOf_11 ?_
    refine g_icmp_neI (pc := 12) X 19 (by decide) (inRb by3 (by decide) (by decide)) ⟨by decide, by decide⟩ dX3_offsetOf_12 (fun c12 => ?_) (fun c12 => ?_)
    · refine g_iconst (pc := 19) X (iI 0) (by rfl) dX3_offsetOf_19 ?_
      refine g_istore_n (pc := 20) X (i := 3) rfl (by decide) (lv' := [(3, .int (iI 0)), (0, .ref p0), (1, .int (iI sp)), (2, .int (iI ba))]) rfl dX3_offsetOf_20 ?_
      refine g_iload_n (pc := 21) X 0 rfl dX3_offsetOf_21 ?_
      refine g_if_eqI (pc := 22) X 36 (by decide) ⟨by decide, by decide⟩ dX3_offsetOf_22 (fun _ => ?_) (fun h => absurd h (by decide))
      refine g_iload_n (pc := 36) X 3 rfl dX3_offsetOf_36 ?_
      refine g_aload_n (pc := 37) X 1 rfl dX3_offsetOf_37 ?_
      refine g_get (pc := 38) X inlX3 0 rfl rfl 1 (by decide) mw_26_23 rfl dX3_offsetOf_38 ?_
      refine g_callSN (pc := 41) X (k_X11_rest l Z ba pr b_ba (by (first | (clear b_sp b_ba b_pw b_pr b_pd b_pl b_pf b_pg; omega) | omega))) iM_X11_rest (by decide) mw_25_3 [] [0] rfl (wr := [cO_iiiiii p0 3 pw pr pd pl pf pg]) rfl (by decide) rfl rfl (Nat.le_of_ble_eq_true rfl) (by decide) dX3_offsetOf_41 (fun r w' hpo => ?_)
      refine exN_1 hpo fun y4 hz => anD_7 hz fun e_r e_w hf41_b_y hf41_f1 hf41_f2 hf41_f3 hf41_f4 => ?_; clear hz hpo; subst e_r; subst e_w
      refine g_as (pc' := 44) (lv' := [(3, .int (iI 0)), (0, .ref p0), (1, .int (iI sp)), (2, .int (iI ba))]) (st' := [.int (iI y4)]) (ws' := [cO_iiiiii p0 3 pw pr pd pl pf pg]) rfl rfl rfl rfl ?_
      exact g_iret (pc := 44) X hA (⟨y4, rfl, rfl, (by (first | (clear b_sp b_ba b_pw b_pr b_pd b_pl b_pf b_pg; omega) | omega))⟩) (by decide) (by decide) dX3_offsetOf_44
    · refine g_iconst (pc := 15) X (iI 1) (by rfl) dX3_offsetOf_15 ?_
      refine g_goto (pc := 16) X 20 (by decide) dX3_offsetOf_16 ?_
      refine g_istore_n (pc := 20) X (i := 3) rfl (by decide) (lv' := [(3, .int (iI 1)), (0, .ref p0), (1, .int (iI sp)), (2, .int (iI ba))]) rfl dX3_offsetOf_20 ?_
      refine g_iload_n (pc := 21) X 0 rfl dX3_offsetOf_21 ?_
      refine g_if_eqI (pc := 22) X 36 (by decide) ⟨by decide, by decide⟩ dX3_offsetOf_22 (fun h => absurd h (by decide)) (fun _ => ?_)
      refine g_iload_n (pc := 25) X 3 rfl dX3_offsetOf_25 ?_
      refine g_aload_n (pc := 26) X 1 rfl dX3_offsetOf_26 ?_
      refine g_get (pc := 27) X inlX3 0 rfl rfl 1 (by decide) mw_26_23 rfl dX3_offsetOf_27 ?_
      refine g_iconst (pc := 30) X (iI 2) (by rfl) dX3_offsetOf_30 ?_
      refine g_idivP (pc := 31) X (by (first | (clear b_sp b_ba b_pw b_pr b_pd b_pl b_pf b_pg; omega) | omega)) (by (first | (clear b_sp b_ba b_pw b_pr b_pd b_pl b_pf b_pg; omega) | omega)) (by (first | (clear b_sp b_ba b_pw b_pr b_pd b_pl b_pf b_pg; omega) | omega)) (by (first | (clear b_sp b_ba b_pw b_pr b_pd b_pl b_pf b_pg; omega) | omega)) dX3_offsetOf_31 ?_
      refine g_iaddI (pc := 32) X dX3_offsetOf_32 ?_
      refine g_any (fun y6 by6 => ?_)
      refine g_goto (pc := 33) X 37 (by decide) dX3_offsetOf_33 ?_
      refine g_aload_n (pc := 37) X 1 rfl dX3_offsetOf_37 ?_
      refine g_get (pc := 38) X inlX3 0 rfl rfl 1 (by decide) mw_26_23 rfl dX3_offsetOf_38 ?_
      refine g_callSN (pc := 41) X (k_X11_rest l Z y6 pr by6 (by (first | (clear b_sp b_ba b_pw b_pr b_pd b_pl b_pf b_pg; omega) | omega))) iM_X11_rest (by decide) mw_25_3 [] [0] rfl (wr := [cO_iiiiii p0 3 pw pr pd pl pf pg]) rfl (by decide) rfl rfl (Nat.le_of_ble_eq_true rfl) (by decide) dX3_offsetOf_41 (fun r w' hpo => ?_)
      refine exN_1 hpo fun y7 hz => anD_7 hz fun e_r e_w hf41_b_y hf41_f1 hf41_f2 hf41_f3 hf41_f4 => ?_; clear hz hpo; subst e_r; subst e_w
      refine g_as (pc' := 44) (lv' := [(3, .int (iI 1)), (0, .ref p0), (1, .int (iI sp)), (2, .int (iI ba))]) (st' := [.int (iI y7)]) (ws' := [cO_iiiiii p0 3 pw pr pd pl pf pg]) rfl rfl rfl rfl ?_
      exact g_iret (pc := 44) X hA (⟨y7, rfl, rfl, (by (first | (clear b_sp b_ba b_pw b_pr b_pd b_pl b_pf b_pg; omega) | omega))⟩) (by decide) (by decide) dX3_offsetOf_44

set_option maxHeartbeats 4000000 in
set_option maxRecDepth 100000 in
theorem k_X3_phaseAt (l : Launch) (Z : gZ) (p0 : Nat) (pl_ : Int) (pw : Int) (pr : Int) (pd : Int) (pl : Int) (pf : Int) (pg : Int) (b_pl_ : (-2147483648) ≤ pl_ ∧ pl_ ≤ 2147483647) (b_pw : 20 ≤ pw ∧ pw ≤ 120) (b_pr : 10 ≤ pr ∧ pr ≤ 120) (b_pd : 0 ≤ pd ∧ pd ≤ 2) (b_pl : 300 ≤ pl ∧ pl ≤ 2000) (b_pf : 0 ≤ pf ∧ pf ≤ 119) (b_pg : 1 ≤ pg ∧ pg ≤ 120) : Con l Z yX3_phaseAt cX3_phaseAt 2 (some .int) 1 22 0 0 [.ref p0, .int (iI pl_)] [cO_iiiiii p0 3 pw pr pd pl pf pg] (fun r w' => ∃ (y : Int), (r = some (.int (iI y))) ∧ (w' = [cO_iiiiii p0 3 pw pr pd pl pf pg]) ∧ (0 ≤ y ∧ y ≤ 119)) := by
  refine enter (by decide) (Nat.le_of_ble_eq_true rfl) ?_
  intro p e s m args below meth c A X hnm hA
  have X : Cx p s m args meth c cX3_phaseAt 2 (some .int) RX3 Z A := X
  refine g_as (pc' := 0) (lv' := [(0, .ref p0), (1, .int (iI pl_))]) (st' := []) (ws' := [cO_iiiiii p0 3 pw pr pd pl pf pg]) rfl rfl rfl rfl ?_
  refine g_aload_n (pc := 0) X 0 rfl dX3_phaseAt_0 ?_
  refine g_get (pc := 1) X inlX3 0 rfl rfl 2 (by decide) mw_26_22 rfl dX3_phaseAt_1 ?_
  refine g_iconst (pc := 4) X (iI 2) (by rfl) dX3_phaseAt_4 ?_
  refine g_icmp_neI (pc := 5) X 12 (by decide) (inRb b_pd (by decide) (by decide)) ⟨by decide, by decide⟩ dX3_phaseAt_5 (fun c5 => ?_) (fun c5 => ?_)
  · refine g_iload_n (pc := 12) X 1 rfl dX3_phaseAt_12 ?_
    refine g_aload_n (pc := 13) X 0 rfl dX3_phaseAt_13 ?_
    refine g_get (pc := 14) X inlX3 0 rfl rfl 1 (by decide) mw_26_23 rfl dX3_phaseAt_14 ?_
    refine g_callSN (pc := 17) X (k_X11_rest l Z pl_ pr b_pl_ (by (first | (clear b_pl_ b_pw b_pr b_pd b_pl b_pf b_pg; omega) | omega))) iM_X11_rest (by decide) mw_25_3 [] [0] rfl (wr := [cO_iiiiii p0 3 pw pr pd pl pf pg]) rfl (by decide) rfl rfl (Nat.le_of_ble_eq_true rfl) (by decide) dX3_phaseAt_17 (fun r w' hpo => ?_)
    refine exN_1 hpo fun y1 hz => anD_7 hz fun e_r e_w hf17_b_y hf17_f1 hf17_f2 hf17_f3 hf17_f4 => ?_; clear hz hpo; subst e_r; subst e_w
    refine g_as (pc' := 20) (lv' := [(0, .ref p0), (1, .int (iI pl_))]) (st' := [.int (iI y1)]) (ws' := [cO_iiiiii p0 3 pw pr pd pl pf pg]) rfl rfl rfl rfl ?_
    exact g_iret (pc := 20) X hA (⟨y1, rfl, rfl, (by (first | (clear b_pl_ b_pw b_pr b_pd b_pl b_pf b_pg; omega) | omega))⟩) (by decide) (by decide) dX3_phaseAt_20
  · refine g_iconst (pc := 8) X (iI 0) (by rfl) dX3_phaseAt_8 ?_
    refine g_goto (pc := 9) X 20 (by decide) dX3_phaseAt_9 ?_
    exact g_iret (pc := 20) X hA (⟨0, rfl, rfl, (by (first | (clear b_pl_ b_pw b_pr b_pd b_pl b_pf b_pg; omega) | omega))⟩) (by decide) (by decide) dX3_phaseAt_20
