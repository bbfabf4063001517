set_option maxHeartbeats 4000000 in
set_option maxRecDepth 100000 in
theorem k_X8_addEnd (l : Launch) (Z : gZ) (s0 : Nat) (s_papers : Nat) (s_starts : Nat) (s_bases : Nat) (s_hungs : Nat) (s_endPapers : Nat) (s_endLengths : Nat) (s_endPhases : Nat) (Sep : Nat → Int) (Sel : Nat → Int) (Sef : Nat → Int) (pp : Int) (le : Int) (ph : Int) (se : Int) (b_pp : 0 ≤ pp ∧ pp ≤ 3) (b_le : (-2147483648) ≤ le ∧ le ≤ 2147483647) (b_ph : 0 ≤ ph ∧ ph ≤ 119) (b_se : 0 ≤ se ∧ se ≤ 10) (h_Sep : ∀ j, j < 10 → 0 ≤ Sep j ∧ Sep j ≤ 3) (h_Sel : ∀ j, j < 10 → 0 ≤ Sel j ∧ Sel j ≤ 2000) (h_Sef : ∀ j, j < 10 → 0 ≤ Sef j ∧ Sef j ≤ 119) : Con l Z yX8_addEnd cX8_addEnd 4 (some .int) 1 22 0 0 [.ref s0, .int (iI pp), .int (iI le), .int (iI ph)] [(s0, .inr (8, [.ref s_papers, .ref s_starts, .ref s_bases, .ref s_hungs, .int (iI se), .ref s_endPapers, .ref s_endLengths, .ref s_endPhases])), (s_endPapers, .inl (Z.2.1 0, 10, .inl (fun j => iI (Sep j)))), (s_endLengths, .inl (Z.2.1 0, 10, .inl (fun j => iI (Sel j)))), (s_endPhases, .inl (Z.2.1 0, 10, .inl (fun j => iI (Sef j))))] (fun r w' => ((r = some (.int (iI (-1)))) ∧ (w' = [(s0, .inr (8, [.ref s_papers, .ref s_starts, .ref s_bases, .ref s_hungs, .int (iI se), .ref s_endPapers, .ref s_endLengths, .ref s_endPhases])), (s_endPapers, .inl (Z.2.1 0, 10, .inl (fun j => iI (Sep j)))), (s_endLengths, .inl (Z.2.1 0, 10, .inl (fun j => iI (Sel j)))), (s_endPhases, .inl (Z.2.1 0, 10, .inl (fun j => iI (Sef j))))]) ∧ (10 ≤ se ∨ ¬ (1 ≤ le ∧ le ≤ 2000))) ∨ (∃ (Sep2 : Nat → Int) (Sel2 : Nat → Int) (Sef2 : Nat → Int) (se2 : Int) (y : Int), (r = some (.int (iI y))) ∧ (w' = [(s0, .inr (8, [.ref s_papers, .ref s_starts, .ref s_bases, .ref s_hungs, .int (iI se2), .ref s_endPapers, .ref s_endLengths, .ref s_endPhases])), (s_endPapers, .inl (Z.2.1 0, 10, .inl (fun j => iI (Sep2 j)))), (s_endLengths, .inl (Z.2.1 0, 10, .inl (fun j => iI (Sel2 j)))), (s_endPhases, .inl (Z.2.1 0, 10, .inl (fun j => iI (Sef2 j))))]) ∧ (0 ≤ se2 ∧ se2 ≤ 10) ∧ (0 ≤ y ∧ y ≤ 9) ∧ (∀ j, j < 10 → 0 ≤ Sep2 j ∧ Sep2 j ≤ 3) ∧ (∀ j, j < 10 → 0 ≤ Sel2 j ∧ Sel2 j ≤ 2000) ∧ (∀ j, j < 10 → 0 ≤ Sef2 j ∧ Sef2 j ≤ 119) ∧ (se < 10 ∧ 1 ≤ le ∧ le ≤ 2000) ∧ (se2 = se + 1) ∧ (y = se))) := by
  refine enter (by decide) (Nat.le_of_ble_eq_true rfl) ?_
  intro p e s m args below meth c A X hnm hA
  have X : Cx p s m args meth c cX8_addEnd 4 (some .int) RX8 Z A := X
  refine g_as (pc' := 0) (lv' := [(0, .ref s0), (1, .int (iI pp)), (2, .int (iI le)), (3, .int (iI ph))]) (st' := []) (ws' := [(s0, .inr (8, [.ref s_papers, .ref s_starts, .ref s_bases, .ref s_hungs, .int (iI se), .ref s_endPapers, .ref s_endLengths, .ref s_endPhases])), (s_endPapers, .inl (Z.2.1 0, 10, .inl (fun j => iI (Sep j)))), (s_endLengths, .inl (Z.2.1 0, 10, .inl (fun j => iI (Sel j)))), (s_endPhases, .inl (Z.2.1 0, 10, .inl (fun j => iI (Sef j))))]) rfl rfl rfl rfl ?_
  refine g_aload_n (pc := 0) X 0 rfl dX8_addEnd_0 ?_
  refine g_get (pc := 1) X inlX8 0 rfl rfl 4 (by decide) mw_51_10 rfl dX8_addEnd_1 ?_
  refine g_bipush (pc := 4) X (iI 10) (by decide) dX8_addEnd_4 ?_
  refine g_icmp_geI (pc := 6) X 20 (by decide) (inRb b_se (by decide) (by decide)) ⟨by decide, by decide⟩ dX8_addEnd_6 (fun c6 => ?_) (fun c6 => ?_)
  · refine g_iconst (pc := 20) X (iI (-1)) (by rfl) dX8_addEnd_20 ?_
    exact g_iret (pc := 21) X hA (Or.inl (⟨rfl, rfl, (by omega)⟩)) (by decide) (by decide) dX8_addEnd_21
  · refine g_iconst (pc := 9) X (iI 1) (by rfl) dX8_addEnd_9 ?_
    refine g_iload_n (pc := 10) X 2 rfl dX8_addEnd_10 ?_
    refine g_sipush (pc := 11) X (iI 2000) (by decide) dX8_addEnd_11 ?_
    refine g_callSN (pc := 14) X (k_X11_isFrom l Z 1 le 2000 (by decide) b_le (by decide)) iM_X11_isFrom (by decide) mw_11_7 [] [0, 1, 2, 3] rfl (wr := [(s0, .inr (8, [.ref s_papers, .ref s_starts, .ref s_bases, .ref s_hungs, .int (iI se), .ref s_endPapers, .ref s_endLengths, .ref s_endPhases])), (s_endPapers, .inl (Z.2.1 0, 10, .inl (fun j => iI (Sep j)))), (s_endLengths, .inl (Z.2.1 0, 10, .inl (fun j => iI (Sel j)))), (s_endPhases, .inl (Z.2.1 0, 10, .inl (fun j => iI (Sef j))))]) rfl (by decide) rfl rfl (Nat.le_of_ble_eq_true rfl) (by decide) dX8_addEnd_14 (fun r w' hpo => ?_)
    obtain ⟨rfl, rfl⟩ := hpo
    refine g_as (pc' := 17) (lv' := [(0, .ref s0), (1, .int (iI pp)), (2, .int (iI le)), (3, .int (iI ph))]) (st' := [.int (iI (bI (1 ≤ le ∧ le ≤ 2000)))]) (ws' := [(s0, .inr (8, [.ref s_papers, .ref s_starts, .ref s_bases, .ref s_hungs, .int (iI se), .ref s_endPapers, .ref s_endLengths, .ref s_endPhases])), (s_endPapers, .inl (Z.2.1 0, 10, .inl (fun j => iI (Sep j)))), (s_endLengths, .inl (Z.2.1 0, 10, .inl (fun j => iI (Sel j)))), (s_endPhases, .inl (Z.2.1 0, 10, .inl (fun j => iI (Sef j))))]) rfl rfl rfl rfl ?_
    refine g_if_neB (pc := 17) X 22 (by decide) dX8_addEnd_17 (fun c17 => ?_) (fun c17 => ?_)
    · refine g_aload_n (pc := 22) X 0 rfl dX8_addEnd_22 ?_
      refine g_get (pc := 23) X inlX8 0 rfl rfl 5 (by decide) mw_4_5 rfl dX8_addEnd_23 ?_
      refine g_aload_n (pc := 26) X 0 rfl dX8_addEnd_26 ?_
      refine g_get (pc := 27) X inlX8 0 rfl rfl 4 (by decide) mw_51_10 rfl dX8_addEnd_27 ?_
      refine g_iload_n (pc := 30) X 1 rfl dX8_addEnd_30 ?_
      refine g_iastG (pc := 31) X 1 rfl (b_se.1) (by omega) (Int.le_trans b_se.2 (by decide)) (ws' := fun F2 => [(s0, .inr (8, [.ref s_papers, .ref s_starts, .ref s_bases, .ref s_hungs, .int (iI se), .ref s_endPapers, .ref s_endLengths, .ref s_endPhases])), (s_endPapers, .inl (Z.2.1 0, 10, .inl (fun j => iI (F2 j)))), (s_endLengths, .inl (Z.2.1 0, 10, .inl (fun j => iI (Sel j)))), (s_endPhases, .inl (Z.2.1 0, 10, .inl (fun j => iI (Sef j))))]) (fun _ => rfl) dX8_addEnd_31 (fun F2 eF2 => ?_)
      have hF2 : ∀ j, j < 10 → 0 ≤ F2 j ∧ F2 j ≤ 3 := by rw [eF2]; exact updI_B h_Sep (by omega)
      refine g_aload_n (pc := 32) X 0 rfl dX8_addEnd_32 ?_
      refine g_get (pc := 33) X inlX8 0 rfl rfl 6 (by decide) mw_4_6 rfl dX8_addEnd_33 ?_
      refine g_aload_n (pc := 36) X 0 rfl dX8_addEnd_36 ?_
      refine g_get (pc := 37) X inlX8 0 rfl rfl 4 (by decide) mw_51_10 rfl dX8_addEnd_37 ?_
      refine g_iload_n (pc := 40) X 2 rfl dX8_addEnd_40 ?_
      refine g_iastG (pc := 41) X 2 rfl (b_se.1) (by omega) (Int.le_trans b_se.2 (by decide)) (ws' := fun F3 => [(s0, .inr (8, [.ref s_papers, .ref s_starts, .ref s_bases, .ref s_hungs, .int (iI se), .ref s_endPapers, .ref s_endLengths, .ref s_endPhases])), (s_endPapers, .inl (Z.2.1 0, 10, .inl (fun j => iI (F2 j)))), (s_endLengths, .inl (Z.2.1 0, 10, .inl (fun j => iI (F3 j)))), (s_endPhases, .inl (Z.2.1 0, 10, .inl (fun j => iI (Sef j))))]) (fun _ => rfl) dX8_addEnd_41 (fun F3 eF3 => ?_)
      have hF3 : ∀ j, j < 10 → 0 ≤ F3 j ∧ F3 j ≤ 2000 := by rw [eF3]; exact updI_B h_Sel (by omega)
      refine g_aload_n (pc := 42) X 0 rfl dX8_addEnd_42 ?_
      refine g_get (pc := 43) X inlX8 0 rfl rfl 7 (by decide) mw_4_7 rfl dX8_addEnd_43 ?_
      refine g_aload_n (pc := 46) X 0 rfl dX8_addEnd_46 ?_
      refine g_get (pc := 47) X inlX8 0 rfl rfl 4 (by decide) mw_51_10 rfl dX8_addEnd_47 ?_
      refine g_iload_n (pc := 50) X 3 rfl dX8_addEnd_50 ?_
      refine g_iastG (pc := 51) X 3 rfl (b_se.1) (by omega) (Int.le_trans b_se.2 (by decide)) (ws' := fun F4 => [(s0, .inr (8, [.ref s_papers, .ref s_starts, .ref s_bases, .ref s_hungs, .int (iI se), .ref s_endPapers, .ref s_endLengths, .ref s_endPhases])), (s_endPapers, .inl (Z.2.1 0, 10, .inl (fun j => iI (F2 j)))), (s_endLengths, .inl (Z.2.1 0, 10, .inl (fun j => iI (F3 j)))), (s_endPhases, .inl (Z.2.1 0, 10, .inl (fun j => iI (F4 j))))]) (fun _ => rfl) dX8_addEnd_51 (fun F4 eF4 => ?_)
      have hF4 : ∀ j, j < 10 → 0 ≤ F4 j ∧ F4 j ≤ 119 := by rw [eF4]; exact updI_B h_Sef (by omega)
      refine g_aload_n (pc := 52) X 0 rfl dX8_addEnd_52 ?_
      refine g_dup (pc := 53) X rfl dX8_addEnd_53 ?_
      refine g_get (pc := 54) X inlX8 0 rfl rfl 4 (by decide) mw_51_10 rfl dX8_addEnd_54 ?_
      refine g_iconst (pc := 57) X (iI 1) (by rfl) dX8_addEnd_57 ?_
      refine g_iaddI (pc := 58) X dX8_addEnd_58 ?_
      refine g_put (pc := 59) X inlX8 tyX8_ok nmX8 0 rfl rfl 4 (by decide) mw_51_10 rfl rfl rfl (Nat.le_of_ble_eq_true rfl) (ws' := [(s0, .inr (8, [.ref s_papers, .ref s_starts, .ref s_bases, .ref s_hungs, .int (iI (se + 1)), .ref s_endPapers, .ref s_endLengths, .ref s_endPhases])), (s_endPapers, .inl (Z.2.1 0, 10, .inl (fun j => iI (F2 j)))), (s_endLengths, .inl (Z.2.1 0, 10, .inl (fun j => iI (F3 j)))), (s_endPhases, .inl (Z.2.1 0, 10, .inl (fun j => iI (F4 j))))]) rfl dX8_addEnd_59 ?_
      refine g_aload_n (pc := 62) X 0 rfl dX8_addEnd_62 ?_
      refine g_get (pc := 63) X inlX8 0 rfl rfl 4 (by decide) mw_51_10 rfl dX8_addEnd_63 ?_
      refine g_iconst (pc := 66) X (iI 1) (by rfl) dX8_addEnd_66 ?_
      refine g_isubI (pc := 67) X dX8_addEnd_67 ?_
      exact g_iret (pc := 68) X hA (Or.inr (⟨F2, F3, F4, (se + 1), ((se + 1) - 1), rfl, rfl, (by omega), (by omega), (hF2), (hF3), (hF4), (by omega), (by omega), (by omega)⟩)) (by decide) (by decide) dX8_addEnd_68
    · refine g_iconst (pc := 20) X (iI (-1)) (by rfl) dX8_addEnd_20 ?_
      exact g_iret (pc := 21) X hA (Or.inl (⟨rfl, rfl, (by omega)⟩)) (by decide) (by decide) dX8_addEnd_21
