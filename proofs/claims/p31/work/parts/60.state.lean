set_option maxHeartbeats 4000000 in
set_option maxRecDepth 100000 in
theorem k_X8_addEnd (l : Launch) (Z : gZ) (s0 : Nat) (s_papers : Nat) (s_starts : Nat) (s_bases : Nat) (s_hungs : Nat) (s_endPapers : Nat) (s_endLengths : Nat) (s_endPhases : Nat) (Sep : Nat → Int) (Sel : Nat → Int) (Sef : Nat → Int) (pp : Int) (le : Int) (ph : Int) (se : Int) (b_pp : 0 ≤ pp ∧ pp ≤ 3) (b_le : (-2147483648) ≤ le ∧ le ≤ 2147483647) (b_ph : 0 ≤ ph ∧ ph ≤ 119) (b_se : 0 ≤ se ∧ se ≤ 10) (h_Sep : ∀ j, j < 10 → 0 ≤ Sep j ∧ Sep j ≤ 3) (h_Sel : ∀ j, j < 10 → 0 ≤ Sel j ∧ Sel j ≤ 2000) (h_Sef : ∀ j, j < 10 → 0 ≤ Sef j ∧ Sef j ≤ 119) : Con l Z yX8_addEnd cX8_addEnd 4 (some .int) 1 22 0 0 [.ref s0, .int (iI pp), .int (iI le), .int (iI ph)] [cO_rrrrirrr s0 8 s_papers s_starts s_bases s_hungs se s_endPapers s_endLengths s_endPhases, cA Z s_endPapers 0 10 Sep, cA Z s_endLengths 0 10 Sel, cA Z s_endPhases 0 10 Sef] (fun r w' => ((r = some (.int (iI (-1)))) ∧ (w' = [cO_rrrrirrr s0 8 s_papers s_starts s_bases s_hungs se s_endPapers s_endLengths s_endPhases, cA Z s_endPapers 0 10 Sep, cA Z s_endLengths 0 10 Sel, cA Z s_endPhases 0 10 Sef]) ∧ (10 ≤ se ∨ ¬ (1 ≤ le ∧ le ≤ 2000))) ∨ (∃ (Sep2 : Nat → Int) (Sel2 : Nat → Int) (Sef2 : Nat → Int) (se2 : Int) (y : Int), (r = some (.int (iI y))) ∧ (w' = [cO_rrrrirrr s0 8 s_papers s_starts s_bases s_hungs se2 s_endPapers s_endLengths s_endPhases, cA Z s_endPapers 0 10 Sep2, cA Z s_endLengths 0 10 Sel2, cA Z s_endPhases 0 10 Sef2]) ∧ (0 ≤ se2 ∧ se2 ≤ 10) ∧ (0 ≤ y ∧ y ≤ 9) ∧ (∀ j, j < 10 → 0 ≤ Sep2 j ∧ Sep2 j ≤ 3) ∧ (∀ j, j < 10 → 0 ≤ Sel2 j ∧ Sel2 j ≤ 2000) ∧ (∀ j, j < 10 → 0 ≤ Sef2 j ∧ Sef2 j ≤ 119) ∧ (se < 10 ∧ 1 ≤ le ∧ le ≤ 2000) ∧ (se2 = se + 1) ∧ (y = se))) := by
  refine enter (by decide) (Nat.le_of_ble_eq_true rfl) ?_
  intro p e s m args below meth c A X hnm hA
  have X : Cx p s m args meth c cX8_addEnd 4 (some .int) RX8 Z A := X
  refine g_as (pc' := 0) (lv' := [(0, .ref s0), (1, .int (iI pp)), (2, .int (iI le)), (3, .int (iI ph))]) (st' := []) (ws' := [cO_rrrrirrr s0 8 s_papers s_starts s_bases s_hungs se s_endPapers s_endLengths s_endPhases, cA Z s_endPapers 0 10 Sep, cA Z s_endLengths 0 10 Sel, cA Z s_endPhases 0 10 Sef]) rfl rfl rfl rfl ?_
  refine g_aload_n (pc := 0) X 0 rfl dX8_addEnd_0 ?_
  refine g_get (pc := 1) X inlX8 0 rfl rfl 4 (by decide) mw_51_10 rfl dX8_addEnd_1 ?_
  refine g_bipush (pc := 4) X (iI 10) (by decide) dX8_addEnd_4 ?_
  refine g_icmp_geI (pc := 6) X 20 (by decide) (inRb b_se (by decide) (by decide)) ⟨by decide, by decide⟩ dX8_addEnd_6 (fun c6 => ?_) (fun c6 => ?_)
  · refine g_iconst (pc := 20) X (iI (-1)) (by rfl) dX8_addEnd_20 ?_
    exact g_iret (pc := 21) X hA (Or.inl (⟨rfl, rfl, (by omega)⟩)) (by decide) (by decide) dX8_addEnd_21
  · refine g_iconst (pc := 9) X (iI 1) (by rfl) dX8_addEnd_9 ?_
    refine g_iload_n (pc := 10) X 2 rfl dX8_addEnd_10 ?_
    refine g_sipush (pc := 11) X (iI 2000) (by decide) dX8_addEnd_11 ?_
    refine g_callSN (pc := 14) X (k_X11_isFrom l Z 1 le 2000 (by decide) b_le (by decide)) iM_X11_isFrom (by decide) mw_11_7 [] [0, 1, 2, 3] rfl (wr := [cO_rrrrirrr s0 8 s_papers s_starts s_bases s_hungs se s_endPapers s_endLengths s_endPhases, cA Z s_endPapers 0 10 Sep, cA Z s_endLengths 0 10 Sel, cA Z s_endPhases 0 10 Sef]) rfl (by decide) rfl rfl (Nat.le_of_ble_eq_true rfl) (by decide) dX8_addEnd_14 (fun r w' hpo => ?_)
    obtain ⟨rfl, rfl⟩ := hpo
    refine g_as (pc' := 17) (lv' := [(0, .ref s0), (1, .int (iI pp)), (2, .int (iI le)), (3, .int (iI ph))]) (st' := [.int (iI (bI (1 ≤ le ∧ le ≤ 2000)))]) (ws' := [cO_rrrrirrr s0 8 s_papers s_starts s_bases s_hungs se s_endPapers s_endLengths s_endPhases, cA Z s_endPapers 0 10 Sep, cA Z s_endLengths 0 10 Sel, cA Z s_endPhases 0 10 Sef]) rfl rfl rfl rfl ?_
    refine g_if_neB (pc := 17) X 22 (by decide) dX8_addEnd_17 (fun c17 => ?_) (fun c17 => ?_)
    · refine g_aload_n (pc := 22) X 0 rfl dX8_addEnd_22 ?_
      refine g_get (pc := 23) X inlX8 0 rfl rfl 5 (by decide) mw_4_5 rfl dX8_addEnd_23 ?_
      refine g_aload_n (pc := 26) X 0 rfl dX8_addEnd_26 ?_
      refine g_get (pc := 27) X inlX8 0 rfl rfl 4 (by decide) mw_51_10 rfl dX8_addEnd_27 ?_
      refine g_iload_n (pc := 30) X 1 rfl dX8_addEnd_30 ?_
      refine g_iastG (pc := 31) X 1 rfl (b_se.1) (by omega) (Int.le_trans b_se.2 (by decide)) (ws' := fun F2 => [cO_rrrrirrr s0 8 s_papers s_starts s_bases s_hungs se s_endPapers s_endLengths s_endPhases, cA Z s_endPapers 0 10 F2, cA Z s_endLengths 0 10 Sel, cA Z s_endPhases 0 10 Sef]) (fun _ => rfl) dX8_addEnd_31 (fun F2 eF2 => ?_)
      have hF2 : ∀ j, j < 10 → 0 ≤ F2 j ∧ F2 j ≤ 3 := by rw [eF2]; exact updI_B h_Sep (by omega)
      refine g_aload_n (pc := 32) X 0 rfl dX8_addEnd_32 ?_
      refine g_get (pc := 33) X inlX8 0 rfl rfl 6 (by decide) mw_4_6 rfl dX8_addEnd_33 ?_
      refine g_aload_n (pc := 36) X 0 rfl dX8_addEnd_36 ?_
      refine g_get (pc := 37) X inlX8 0 rfl rfl 4 (by decide) mw_51_10 rfl dX8_addEnd_37 ?_
      refine g_iload_n (pc := 40) X 2 rfl dX8_addEnd_40 ?_
      refine g_iastG (pc := 41) X 2 rfl (b_se.1) (by omega) (Int.le_trans b_se.2 (by decide)) (ws' := fun F3 => [cO_rrrrirrr s0 8 s_papers s_starts s_bases s_hungs se s_endPapers s_endLengths s_endPhases, cA Z s_endPapers 0 10 F2, cA Z s_endLengths 0 10 F3, cA Z s_endPhases 0 10 Sef]) (fun _ => rfl) dX8_addEnd_41 (fun F3 eF3 => ?_)
      have hF3 : ∀ j, j < 10 → 0 ≤ F3 j ∧ F3 j ≤ 2000 := by rw [eF3]; exact updI_B h_Sel (by omega)
      refine g_aload_n (pc := 42) X 0 rfl dX8_addEnd_42 ?_
      refine g_get (pc := 43) X inlX8 0 rfl rfl 7 (by decide) mw_4_7 rfl dX8_addEnd_43 ?_
      refine g_aload_n (pc := 46) X 0 rfl dX8_addEnd_46 ?_
      refine g_get (pc := 47) X inlX8 0 rfl rfl 4 (by decide) mw_51_10 rfl dX8_addEnd_47 ?_
      refine g_iload_n (pc := 50) X 3 rfl dX8_addEnd_50 ?_
      refine g_iastG (pc := 51) X 3 rfl (b_se.1) (by omega) (Int.le_trans b_se.2 (by decide)) (ws' := fun F4 => [cO_rrrrirrr s0 8 s_papers s_starts s_bases s_hungs se s_endPapers s_endLengths s_endPhases, cA Z s_endPapers 0 10 F2, cA Z s_endLengths 0 10 F3, cA Z s_endPhases 0 10 F4]) (fun _ => rfl) dX8_addEnd_51 (fun F4 eF4 => ?_)
      have hF4 : ∀ j, j < 10 → 0 ≤ F4 j ∧ F4 j ≤ 119 := by rw [eF4]; exact updI_B h_Sef (by omega)
      refine g_aload_n (pc := 52) X 0 rfl dX8_addEnd_52 ?_
      refine g_dup (pc := 53) X rfl dX8_addEnd_53 ?_
      refine g_get (pc := 54) X inlX8 0 rfl rfl 4 (by decide) mw_51_10 rfl dX8_addEnd_54 ?_
      refine g_iconst (pc := 57) X (iI 1) (by rfl) dX8_addEnd_57 ?_
      refine g_iaddI (pc := 58) X dX8_addEnd_58 ?_
      refine g_put (pc := 59) X inlX8 tyX8_ok nmX8 0 rfl rfl 4 (by decide) mw_51_10 rfl rfl rfl (Nat.le_of_ble_eq_true rfl) (ws' := [cO_rrrrirrr s0 8 s_papers s_starts s_bases s_hungs (se + 1) s_endPapers s_endLengths s_endPhases, cA Z s_endPapers 0 10 F2, cA Z s_endLengths 0 10 F3, cA Z s_endPhases 0 10 F4]) rfl dX8_addEnd_59 ?_
      refine g_aload_n (pc := 62) X 0 rfl dX8_addEnd_62 ?_
      refine g_get (pc := 63) X inlX8 0 rfl rfl 4 (by decide) mw_51_10 rfl dX8_addEnd_63 ?_
      refine g_iconst (pc := 66) X (iI 1) (by rfl) dX8_addEnd_66 ?_
      refine g_isubI (pc := 67) X dX8_addEnd_67 ?_
      exact g_iret (pc := 68) X hA (Or.inr (⟨F2, F3, F4, (se + 1), ((se + 1) - 1), rfl, rfl, (by omega), (by omega), (hF2), (hF3), (hF4), (by omega), (by omega), (by omega)⟩)) (by decide) (by decide) dX8_addEnd_68
    · refine g_iconst (pc := 20) X (iI (-1)) (by rfl) dX8_addEnd_20 ?_
      exact g_iret (pc := 21) X hA (Or.inl (⟨rfl, rfl, (by omega)⟩)) (by decide) (by decide) dX8_addEnd_21

set_option maxHeartbeats 4000000 in
set_option maxRecDepth 100000 in
theorem k_X8_copyFrom (l : Launch) (Z : gZ) (d0 : Nat) (s0 : Nat) (d_papers : Nat) (d_starts : Nat) (d_bases : Nat) (d_hungs : Nat) (d_endPapers : Nat) (d_endLengths : Nat) (d_endPhases : Nat) (s_papers : Nat) (s_starts : Nat) (s_bases : Nat) (s_hungs : Nat) (s_endPapers : Nat) (s_endLengths : Nat) (s_endPhases : Nat) (Dp : Nat → Int) (Ds : Nat → Int) (Db : Nat → Int) (Dh : Nat → Int) (Dep : Nat → Int) (Del : Nat → Int) (Def : Nat → Int) (Sp : Nat → Int) (Ss : Nat → Int) (Sb : Nat → Int) (Sh : Nat → Int) (Sep : Nat → Int) (Sel : Nat → Int) (Sef : Nat → Int) (de : Int) (se : Int) (b_de : 0 ≤ de ∧ de ≤ 10) (b_se : 0 ≤ se ∧ se ≤ 10) (h_Dp : ∀ j, j < 6 → (-1) ≤ Dp j ∧ Dp j ≤ 3) (h_Ds : ∀ j, j < 6 → 0 ≤ Ds j ∧ Ds j ≤ 4799) (h_Db : ∀ j, j < 6 → 0 ≤ Db j ∧ Db j ≤ 119) (h_Dh : ∀ j, j < 6 → 0 ≤ Dh j ∧ Dh j ≤ 240) (h_Dep : ∀ j, j < 10 → 0 ≤ Dep j ∧ Dep j ≤ 3) (h_Del : ∀ j, j < 10 → 0 ≤ Del j ∧ Del j ≤ 2000) (h_Def : ∀ j, j < 10 → 0 ≤ Def j ∧ Def j ≤ 119) (h_Sp : ∀ j, j < 6 → (-1) ≤ Sp j ∧ Sp j ≤ 3) (h_Ss : ∀ j, j < 6 → 0 ≤ Ss j ∧ Ss j ≤ 4799) (h_Sb : ∀ j, j < 6 → 0 ≤ Sb j ∧ Sb j ≤ 119) (h_Sh : ∀ j, j < 6 → 0 ≤ Sh j ∧ Sh j ≤ 240) (h_Sep : ∀ j, j < 10 → 0 ≤ Sep j ∧ Sep j ≤ 3) (h_Sel : ∀ j, j < 10 → 0 ≤ Sel j ∧ Sel j ≤ 2000) (h_Sef : ∀ j, j < 10 → 0 ≤ Sef j ∧ Sef j ≤ 119) : Con l Z yX8_copyFrom cX8_copyFrom 3 none 0 0 0 0 [.ref d0, .ref s0] [cO_rrrrirrr d0 8 d_papers d_starts d_bases d_hungs de d_endPapers d_endLengths d_endPhases, cA Z d_papers 0 6 Dp, cA Z d_starts 0 6 Ds, cA Z d_bases 0 6 Db, cA Z d_hungs 0 6 Dh, cA Z d_endPapers 0 10 Dep, cA Z d_endLengths 0 10 Del, cA Z d_endPhases 0 10 Def, cO_rrrrirrr s0 8 s_papers s_starts s_bases s_hungs se s_endPapers s_endLengths s_endPhases, cA Z s_papers 0 6 Sp, cA Z s_starts 0 6 Ss, cA Z s_bases 0 6 Sb, cA Z s_hungs 0 6 Sh, cA Z s_endPapers 0 10 Sep, cA Z s_endLengths 0 10 Sel, cA Z s_endPhases 0 10 Sef] (fun r w' => ∃ (Dp2 : Nat → Int) (Ds2 : Nat → Int) (Db2 : Nat → Int) (Dh2 : Nat → Int) (Dep2 : Nat → Int) (Del2 : Nat → Int) (Def2 : Nat → Int), (r = none) ∧ (w' = [cO_rrrrirrr d0 8 d_papers d_starts d_bases d_hungs se d_endPapers d_endLengths d_endPhases, cA Z d_papers 0 6 Dp2, cA Z d_starts 0 6 Ds2, cA Z d_bases 0 6 Db2, cA Z d_hungs 0 6 Dh2, cA Z d_endPapers 0 10 Dep2, cA Z d_endLengths 0 10 Del2, cA Z d_endPhases 0 10 Def2, cO_rrrrirrr s0 8 s_papers s_starts s_bases s_hungs se s_endPapers s_endLengths s_endPhases, cA Z s_papers 0 6 Sp, cA Z s_starts 0 6 Ss, cA Z s_bases 0 6 Sb, cA Z s_hungs 0 6 Sh, cA Z s_endPapers 0 10 Sep, cA Z s_endLengths 0 10 Sel, cA Z s_endPhases 0 10 Sef]) ∧ (∀ j, j < 6 → (-1) ≤ Dp2 j ∧ Dp2 j ≤ 3) ∧ (∀ j, j < 6 → 0 ≤ Ds2 j ∧ Ds2 j ≤ 4799) ∧ (∀ j, j < 6 → 0 ≤ Db2 j ∧ Db2 j ≤ 119) ∧ (∀ j, j < 6 → 0 ≤ Dh2 j ∧ Dh2 j ≤ 240) ∧ (∀ j, j < 10 → 0 ≤ Dep2 j ∧ Dep2 j ≤ 3) ∧ (∀ j, j < 10 → 0 ≤ Del2 j ∧ Del2 j ≤ 2000) ∧ (∀ j, j < 10 → 0 ≤ Def2 j ∧ Def2 j ≤ 119)) := by
  refine enter (by decide) (Nat.le_of_ble_eq_true rfl) ?_
  intro p e s m args below meth c A X hnm hA
  have X : Cx p s m args meth c cX8_copyFrom 3 none RX8 Z A := X
  refine g_as (pc' := 0) (lv' := [(0, .ref d0), (1, .ref s0)]) (st' := []) (ws' := [cO_rrrrirrr d0 8 d_papers d_starts d_bases d_hungs de d_endPapers d_endLengths d_endPhases, cA Z d_papers 0 6 Dp, cA Z d_starts 0 6 Ds, cA Z d_bases 0 6 Db, cA Z d_hungs 0 6 Dh, cA Z d_endPapers 0 10 Dep, cA Z d_endLengths 0 10 Del, cA Z d_endPhases 0 10 Def, cO_rrrrirrr s0 8 s_papers s_starts s_bases s_hungs se s_endPapers s_endLengths s_endPhases, cA Z s_papers 0 6 Sp, cA Z s_starts 0 6 Ss, cA Z s_bases 0 6 Sb, cA Z s_hungs 0 6 Sh, cA Z s_endPapers 0 10 Sep, cA Z s_endLengths 0 10 Sel, cA Z s_endPhases 0 10 Sef]) rfl rfl rfl rfl ?_
  refine g_aload_n (pc := 0) X 1 rfl dX8_copyFrom_0 ?_
  refine g_ifnonnull (pc := 1) X 5 (by decide) dX8_copyFrom_1 ?_
  refine g_iconst (pc := 5) X (iI 0) (by rfl) dX8_copyFrom_5 ?_
  refine g_istore_n (pc := 6) X (i := 2) rfl (by decide) (lv' := [(2, .int (iI 0)), (0, .ref d0), (1, .ref s0)]) rfl dX8_copyFrom_6 ?_
  have loop7 : ∀ (fuel : Nat) (i : Int) (Dp1 : Nat → Int) (Ds1 : Nat → Int) (Db1 : Nat → Int) (Dh1 : Nat → Int), (0 ≤ i ∧ i ≤ 6) → (∀ j, j < 6 → (-1) ≤ Dp1 j ∧ Dp1 j ≤ 3) → (∀ j, j < 6 → 0 ≤ Ds1 j ∧ Ds1 j ≤ 4799) → (∀ j, j < 6 → 0 ≤ Db1 j ∧ Db1 j ≤ 119) → (∀ j, j < 6 → 0 ≤ Dh1 j ∧ Dh1 j ≤ 240) → (7 - i).toNat < fuel → Gs p l e ({ frames := 0, cells := 0, slots := 0, locals := 0 } : Room) s m args below meth c (MQ below (gPost Z [cO_rrrrirrr d0 8 d_papers d_starts d_bases d_hungs de d_endPapers d_endLengths d_endPhases, cA Z d_papers 0 6 Dp, cA Z d_starts 0 6 Ds, cA Z d_bases 0 6 Db, cA Z d_hungs 0 6 Dh, cA Z d_endPapers 0 10 Dep, cA Z d_endLengths 0 10 Del, cA Z d_endPhases 0 10 Def, cO_rrrrirrr s0 8 s_papers s_starts s_bases s_hungs se s_endPapers s_endLengths s_endPhases, cA Z s_papers 0 6 Sp, cA Z s_starts 0 6 Ss, cA Z s_bases 0 6 Sb, cA Z s_hungs 0 6 Sh, cA Z s_endPapers 0 10 Sep, cA Z s_endLengths 0 10 Sel, cA Z s_endPhases 0 10 Sef] s.heap.size (fun r w' => ∃ (Dp2 : Nat → Int) (Ds2 : Nat → Int) (Db2 : Nat → Int) (Dh2 : Nat → Int) (Dep2 : Nat → Int) (Del2 : Nat → Int) (Def2 : Nat → Int), (r = none) ∧ (w' = [cO_rrrrirrr d0 8 d_papers d_starts d_bases d_hungs se d_endPapers d_endLengths d_endPhases, cA Z d_papers 0 6 Dp2, cA Z d_starts 0 6 Ds2, cA Z d_bases 0 6 Db2, cA Z d_hungs 0 6 Dh2, cA Z d_endPapers 0 10 Dep2, cA Z d_endLengths 0 10 Del2, cA Z d_endPhases 0 10 Def2, cO_rrrrirrr s0 8 s_papers s_starts s_bases s_hungs se s_endPapers s_endLengths s_endPhases, cA Z s_papers 0 6 Sp, cA Z s_starts 0 6 Ss, cA Z s_bases 0 6 Sb, cA Z s_hungs 0 6 Sh, cA Z s_endPapers 0 10 Sep, cA Z s_endLengths 0 10 Sel, cA Z s_endPhases 0 10 Sef]) ∧ (∀ j, j < 6 → (-1) ≤ Dp2 j ∧ Dp2 j ≤ 3) ∧ (∀ j, j < 6 → 0 ≤ Ds2 j ∧ Ds2 j ≤ 4799) ∧ (∀ j, j < 6 → 0 ≤ Db2 j ∧ Db2 j ≤ 119) ∧ (∀ j, j < 6 → 0 ≤ Dh2 j ∧ Dh2 j ≤ 240) ∧ (∀ j, j < 10 → 0 ≤ Dep2 j ∧ Dep2 j ≤ 3) ∧ (∀ j, j < 10 → 0 ≤ Del2 j ∧ Del2 j ≤ 2000) ∧ (∀ j, j < 10 → 0 ≤ Def2 j ∧ Def2 j ≤ 119))) args s 0 0 (va_A [cO_rrrrirrr d0 8 d_papers d_starts d_bases d_hungs de d_endPapers d_endLengths d_endPhases, cA Z d_papers 0 6 Dp, cA Z d_starts 0 6 Ds, cA Z d_bases 0 6 Db, cA Z d_hungs 0 6 Dh, cA Z d_endPapers 0 10 Dep, cA Z d_endLengths 0 10 Del, cA Z d_endPhases 0 10 Def, cO_rrrrirrr s0 8 s_papers s_starts s_bases s_hungs se s_endPapers s_endLengths s_endPhases, cA Z s_papers 0 6 Sp, cA Z s_starts 0 6 Ss, cA Z s_bases 0 6 Sb, cA Z s_hungs 0 6 Sh, cA Z s_endPapers 0 10 Sep, cA Z s_endLengths 0 10 Sel, cA Z s_endPhases 0 10 Sef] s.heap.size)) Z A 3 0 0 7 [(2, .int (iI i)), (0, .ref d0), (1, .ref s0)] [] [cO_rrrrirrr d0 8 d_papers d_starts d_bases d_hungs de d_endPapers d_endLengths d_endPhases, cA Z d_papers 0 6 Dp1, cA Z d_starts 0 6 Ds1, cA Z d_bases 0 6 Db1, cA Z d_hungs 0 6 Dh1, cA Z d_endPapers 0 10 Dep, cA Z d_endLengths 0 10 Del, cA Z d_endPhases 0 10 Def, cO_rrrrirrr s0 8 s_papers s_starts s_bases s_hungs se s_endPapers s_endLengths s_endPhases, cA Z s_papers 0 6 Sp, cA Z s_starts 0 6 Ss, cA Z s_bases 0 6 Sb, cA Z s_hungs 0 6 Sh, cA Z s_endPapers 0 10 Sep, cA Z s_endLengths 0 10 Sel, cA Z s_endPhases 0 10 Sef] := by
    intro fuel
    induction fuel with
    | zero => intro i Dp1 Ds1 Db1 Dh1 _ _ _ _ _ hm; exact absurd hm (Nat.not_lt_zero _)
    | succ fuel ih =>
      intro i Dp1 Ds1 Db1 Dh1 b_i h_Dp1 h_Ds1 h_Db1 h_Dh1 hm
      refine g_iload_n (pc := 7) X 0 rfl dX8_copyFrom_7 ?_
      refine g_bipush (pc := 8) X (iI 6) (by decide) dX8_copyFrom_8 ?_
      refine g_icmp_geI (pc := 10) X 67 (by decide) (inRb b_i (by decide) (by decide)) ⟨by decide, by decide⟩ dX8_copyFrom_10 (fun c10 => ?_) (fun c10 => ?_)
      · refine g_aload_n (pc := 67) X 1 rfl dX8_copyFrom_67 ?_
        refine g_aload_n (pc := 68) X 2 rfl dX8_copyFrom_68 ?_
        refine g_get (pc := 69) X inlX8 8 rfl rfl 4 (by decide) mw_51_10 rfl dX8_copyFrom_69 ?_
        refine g_put (pc := 72) X inlX8 tyX8_ok nmX8 0 rfl rfl 4 (by decide) mw_51_10 rfl rfl rfl (Nat.le_of_ble_eq_true rfl) (ws' := [cO_rrrrirrr d0 8 d_papers d_starts d_bases d_hungs se d_endPapers d_endLengths d_endPhases, cA Z d_papers 0 6 Dp1, cA Z d_starts 0 6 Ds1, cA Z d_bases 0 6 Db1, cA Z d_hungs 0 6 Dh1, cA Z d_endPapers 0 10 Dep, cA Z d_endLengths 0 10 Del, cA Z d_endPhases 0 10 Def, cO_rrrrirrr s0 8 s_papers s_starts s_bases s_hungs se s_endPapers s_endLengths s_endPhases, cA Z s_papers 0 6 Sp, cA Z s_starts 0 6 Ss, cA Z s_bases 0 6 Sb, cA Z s_hungs 0 6 Sh, cA Z s_endPapers 0 10 Sep, cA Z s_endLengths 0 10 Sel, cA Z s_endPhases 0 10 Sef]) rfl dX8_copyFrom_72 ?_
        refine g_iconst (pc := 75) X (iI 0) (by rfl) dX8_copyFrom_75 ?_
        refine g_istore_n (pc := 76) X (i := 2) rfl (by decide) (lv' := [(2, .int (iI 0)), (0, .ref d0), (1, .ref s0)]) rfl dX8_copyFrom_76 ?_
        have loop77 : ∀ (fuel : Nat) (i : Int) (Dep1 : Nat → Int) (Del1 : Nat → Int) (Def1 : Nat → Int), (0 ≤ i ∧ i ≤ 10) → (∀ j, j < 10 → 0 ≤ Dep1 j ∧ Dep1 j ≤ 3) → (∀ j, j < 10 → 0 ≤ Del1 j ∧ Del1 j ≤ 2000) → (∀ j, j < 10 → 0 ≤ Def1 j ∧ Def1 j ≤ 119) → (11 - i).toNat < fuel → Gs p l e ({ frames := 0, cells := 0, slots := 0, locals := 0 } : Room) s m args below meth c (MQ below (gPost Z [cO_rrrrirrr d0 8 d_papers d_starts d_bases d_hungs de d_endPapers d_endLengths d_endPhases, cA Z d_papers 0 6 Dp, cA Z d_starts 0 6 Ds, cA Z d_bases 0 6 Db, cA Z d_hungs 0 6 Dh, cA Z d_endPapers 0 10 Dep, cA Z d_endLengths 0 10 Del, cA Z d_endPhases 0 10 Def, cO_rrrrirrr s0 8 s_papers s_starts s_bases s_hungs se s_endPapers s_endLengths s_endPhases, cA Z s_papers 0 6 Sp, cA Z s_starts 0 6 Ss, cA Z s_bases 0 6 Sb, cA Z s_hungs 0 6 Sh, cA Z s_endPapers 0 10 Sep, cA Z s_endLengths 0 10 Sel, cA Z s_endPhases 0 10 Sef] s.heap.size (fun r w' => ∃ (Dp2 : Nat → Int) (Ds2 : Nat → Int) (Db2 : Nat → Int) (Dh2 : Nat → Int) (Dep2 : Nat → Int) (Del2 : Nat → Int) (Def2 : Nat → Int), (r = none) ∧ (w' = [cO_rrrrirrr d0 8 d_papers d_starts d_bases d_hungs se d_endPapers d_endLengths d_endPhases, cA Z d_papers 0 6 Dp2, cA Z d_starts 0 6 Ds2, cA Z d_bases 0 6 Db2, cA Z d_hungs 0 6 Dh2, cA Z d_endPapers 0 10 Dep2, cA Z d_endLengths 0 10 Del2, cA Z d_endPhases 0 10 Def2, cO_rrrrirrr s0 8 s_papers s_starts s_bases s_hungs se s_endPapers s_endLengths s_endPhases, cA Z s_papers 0 6 Sp, cA Z s_starts 0 6 Ss, cA Z s_bases 0 6 Sb, cA Z s_hungs 0 6 Sh, cA Z s_endPapers 0 10 Sep, cA Z s_endLengths 0 10 Sel, cA Z s_endPhases 0 10 Sef]) ∧ (∀ j, j < 6 → (-1) ≤ Dp2 j ∧ Dp2 j ≤ 3) ∧ (∀ j, j < 6 → 0 ≤ Ds2 j ∧ Ds2 j ≤ 4799) ∧ (∀ j, j < 6 → 0 ≤ Db2 j ∧ Db2 j ≤ 119) ∧ (∀ j, j < 6 → 0 ≤ Dh2 j ∧ Dh2 j ≤ 240) ∧ (∀ j, j < 10 → 0 ≤ Dep2 j ∧ Dep2 j ≤ 3) ∧ (∀ j, j < 10 → 0 ≤ Del2 j ∧ Del2 j ≤ 2000) ∧ (∀ j, j < 10 → 0 ≤ Def2 j ∧ Def2 j ≤ 119))) args s 0 0 (va_A [cO_rrrrirrr d0 8 d_papers d_starts d_bases d_hungs de d_endPapers d_endLengths d_endPhases, cA Z d_papers 0 6 Dp, cA Z d_starts 0 6 Ds, cA Z d_bases 0 6 Db, cA Z d_hungs 0 6 Dh, cA Z d_endPapers 0 10 Dep, cA Z d_endLengths 0 10 Del, cA Z d_endPhases 0 10 Def, cO_rrrrirrr s0 8 s_papers s_starts s_bases s_hungs se s_endPapers s_endLengths s_endPhases, cA Z s_papers 0 6 Sp, cA Z s_starts 0 6 Ss, cA Z s_bases 0 6 Sb, cA Z s_hungs 0 6 Sh, cA Z s_endPapers 0 10 Sep, cA Z s_endLengths 0 10 Sel, cA Z s_endPhases 0 10 Sef] s.heap.size)) Z A 3 0 0 77 [(2, .int (iI i)), (0, .ref d0), (1, .ref s0)] [] [cO_rrrrirrr d0 8 d_papers d_starts d_bases d_hungs se d_endPapers d_endLengths d_endPhases, cA Z d_papers 0 6 Dp1, cA Z d_starts 0 6 Ds1, cA Z d_bases 0 6 Db1, cA Z d_hungs 0 6 Dh1, cA Z d_endPapers 0 10 Dep1, cA Z d_endLengths 0 10 Del1, cA Z d_endPhases 0 10 Def1, cO_rrrrirrr s0 8 s_papers s_starts s_bases s_hungs se s_endPapers s_endLengths s_endPhases, cA Z s_papers 0 6 Sp, cA Z s_starts 0 6 Ss, cA Z s_bases 0 6 Sb, cA Z s_hungs 0 6 Sh, cA Z s_endPapers 0 10 Sep, cA Z s_endLengths 0 10 Sel, cA Z s_endPhases 0 10 Sef] := by
          intro fuel
          induction fuel with
          | zero => intro i Dep1 Del1 Def1 _ _ _ _ hm; exact absurd hm (Nat.not_lt_zero _)
          | succ fuel ih =>
            intro i Dep1 Del1 Def1 b_i h_Dep1 h_Del1 h_Def1 hm
            refine g_iload_n (pc := 77) X 0 rfl dX8_copyFrom_77 ?_
            refine g_bipush (pc := 78) X (iI 10) (by decide) dX8_copyFrom_78 ?_
            refine g_icmp_geI (pc := 80) X 125 (by decide) (inRb b_i (by decide) (by decide)) ⟨by decide, by decide⟩ dX8_copyFrom_80 (fun c80 => ?_) (fun c80 => ?_)
            · exact g_vret (pc := 125) X hA (⟨Dp1, Ds1, Db1, Dh1, Dep1, Del1, Def1, rfl, rfl, (h_Dp1), (h_Ds1), (h_Db1), (h_Dh1), (h_Dep1), (h_Del1), (h_Def1)⟩) (by decide) (by decide) dX8_copyFrom_125
            · refine g_aload_n (pc := 83) X 1 rfl dX8_copyFrom_83 ?_
              refine g_get (pc := 84) X inlX8 0 rfl rfl 5 (by decide) mw_4_5 rfl dX8_copyFrom_84 ?_
              refine g_iload_n (pc := 87) X 0 rfl dX8_copyFrom_87 ?_
              refine g_aload_n (pc := 88) X 2 rfl dX8_copyFrom_88 ?_
              refine g_get (pc := 89) X inlX8 8 rfl rfl 5 (by decide) mw_4_5 rfl dX8_copyFrom_89 ?_
              refine g_iload_n (pc := 92) X 0 rfl dX8_copyFrom_92 ?_
              refine g_ialdI (pc := 93) X 13 rfl (b_i.1) (by omega) (Int.le_trans b_i.2 (by decide)) dX8_copyFrom_93 ?_
              refine g_nameI (fun y1 ey1 => ?_)
              have by1 : 0 ≤ y1 ∧ y1 ≤ 3 := by rw [ey1]; exact h_Sep _ (by omega)
              refine g_iastG (pc := 94) X 5 rfl (b_i.1) (by omega) (Int.le_trans b_i.2 (by decide)) (ws' := fun F2 => [cO_rrrrirrr d0 8 d_papers d_starts d_bases d_hungs se d_endPapers d_endLengths d_endPhases, cA Z d_papers 0 6 Dp1, cA Z d_starts 0 6 Ds1, cA Z d_bases 0 6 Db1, cA Z d_hungs 0 6 Dh1, cA Z d_endPapers 0 10 F2, cA Z d_endLengths 0 10 Del1, cA Z d_endPhases 0 10 Def1, cO_rrrrirrr s0 8 s_papers s_starts s_bases s_hungs se s_endPapers s_endLengths s_endPhases, cA Z s_papers 0 6 Sp, cA Z s_starts 0 6 Ss, cA Z s_bases 0 6 Sb, cA Z s_hungs 0 6 Sh, cA Z s_endPapers 0 10 Sep, cA Z s_endLengths 0 10 Sel, cA Z s_endPhases 0 10 Sef]) (fun _ => rfl) dX8_copyFrom_94 (fun F2 eF2 => ?_)
              have hF2 : ∀ j, j < 10 → 0 ≤ F2 j ∧ F2 j ≤ 3 := by rw [eF2]; exact updI_B h_Dep1 (by omega)
              refine g_aload_n (pc := 95) X 1 rfl dX8_copyFrom_95 ?_
              refine g_get (pc := 96) X inlX8 0 rfl rfl 6 (by decide) mw_4_6 rfl dX8_copyFrom_96 ?_
              refine g_iload_n (pc := 99) X 0 rfl dX8_copyFrom_99 ?_
              refine g_aload_n (pc := 100) X 2 rfl dX8_copyFrom_100 ?_
              refine g_get (pc := 101) X inlX8 8 rfl rfl 6 (by decide) mw_4_6 rfl dX8_copyFrom_101 ?_
              refine g_iload_n (pc := 104) X 0 rfl dX8_copyFrom_104 ?_
              refine g_ialdI (pc := 105) X 14 rfl (b_i.1) (by omega) (Int.le_trans b_i.2 (by decide)) dX8_copyFrom_105 ?_
              refine g_nameI (fun y3 ey3 => ?_)
              have by3 : 0 ≤ y3 ∧ y3 ≤ 2000 := by rw [ey3]; exact h_Sel _ (by omega)
              refine g_iastG (pc := 106) X 6 rfl (b_i.1) (by omega) (Int.le_trans b_i.2 (by decide)) (ws' := fun F4 => [cO_rrrrirrr d0 8 d_papers d_starts d_bases d_hungs se d_endPapers d_endLengths d_endPhases, cA Z d_papers 0 6 Dp1, cA Z d_starts 0 6 Ds1, cA Z d_bases 0 6 Db1, cA Z d_hungs 0 6 Dh1, cA Z d_endPapers 0 10 F2, cA Z d_endLengths 0 10 F4, cA Z d_endPhases 0 10 Def1, cO_rrrrirrr s0 8 s_papers s_starts s_bases s_hungs se s_endPapers s_endLengths s_endPhases, cA Z s_papers 0 6 Sp, cA Z s_starts 0 6 Ss, cA Z s_bases 0 6 Sb, cA Z s_hungs 0 6 Sh, cA Z s_endPapers 0 10 Sep, cA Z s_endLengths 0 10 Sel, cA Z s_endPhases 0 10 Sef]) (fun _ => rfl) dX8_copyFrom_106 (fun F4 eF4 => ?_)
              have hF4 : ∀ j, j < 10 → 0 ≤ F4 j ∧ F4 j ≤ 2000 := by rw [eF4]; exact updI_B h_Del1 (by omega)
              refine g_aload_n (pc := 107) X 1 rfl dX8_copyFrom_107 ?_
              refine g_get (pc := 108) X inlX8 0 rfl rfl 7 (by decide) mw_4_7 rfl dX8_copyFrom_108 ?_
              refine g_iload_n (pc := 111) X 0 rfl dX8_copyFrom_111 ?_
              refine g_aload_n (pc := 112) X 2 rfl dX8_copyFrom_112 ?_
              refine g_get (pc := 113) X inlX8 8 rfl rfl 7 (by decide) mw_4_7 rfl dX8_copyFrom_113 ?_
              refine g_iload_n (pc := 116) X 0 rfl dX8_copyFrom_116 ?_
              refine g_ialdI (pc := 117) X 15 rfl (b_i.1) (by omega) (Int.le_trans b_i.2 (by decide)) dX8_copyFrom_117 ?_
              refine g_nameI (fun y5 ey5 => ?_)
              have by5 : 0 ≤ y5 ∧ y5 ≤ 119 := by rw [ey5]; exact h_Sef _ (by omega)
              refine g_iastG (pc := 118) X 7 rfl (b_i.1) (by omega) (Int.le_trans b_i.2 (by decide)) (ws' := fun F6 => [cO_rrrrirrr d0 8 d_papers d_starts d_bases d_hungs se d_endPapers d_endLengths d_endPhases, cA Z d_papers 0 6 Dp1, cA Z d_starts 0 6 Ds1, cA Z d_bases 0 6 Db1, cA Z d_hungs 0 6 Dh1, cA Z d_endPapers 0 10 F2, cA Z d_endLengths 0 10 F4, cA Z d_endPhases 0 10 F6, cO_rrrrirrr s0 8 s_papers s_starts s_bases s_hungs se s_endPapers s_endLengths s_endPhases, cA Z s_papers 0 6 Sp, cA Z s_starts 0 6 Ss, cA Z s_bases 0 6 Sb, cA Z s_hungs 0 6 Sh, cA Z s_endPapers 0 10 Sep, cA Z s_endLengths 0 10 Sel, cA Z s_endPhases 0 10 Sef]) (fun _ => rfl) dX8_copyFrom_118 (fun F6 eF6 => ?_)
              have hF6 : ∀ j, j < 10 → 0 ≤ F6 j ∧ F6 j ≤ 119 := by rw [eF6]; exact updI_B h_Def1 (by omega)
              refine g_iincI (pc := 119) X 0 rfl (by decide) (lv' := [(2, .int (iI (i + 1))), (0, .ref d0), (1, .ref s0)]) rfl dX8_copyFrom_119 ?_
              refine g_goto (pc := 122) X 77 (by decide) dX8_copyFrom_122 ?_
              exact ih (i + 1) F2 F4 F6 (by omega) (hF2) (hF4) (hF6) (by omega)
        exact loop77 _ 0 Dep Del Def (by omega) (h_Dep) (h_Del) (h_Def) (Nat.lt_succ_self _)
      · refine g_aload_n (pc := 13) X 1 rfl dX8_copyFrom_13 ?_
        refine g_get (pc := 14) X inlX8 0 rfl rfl 0 (by decide) mw_4_1 rfl dX8_copyFrom_14 ?_
        refine g_iload_n (pc := 17) X 0 rfl dX8_copyFrom_17 ?_
        refine g_aload_n (pc := 18) X 2 rfl dX8_copyFrom_18 ?_
        refine g_get (pc := 19) X inlX8 8 rfl rfl 0 (by decide) mw_4_1 rfl dX8_copyFrom_19 ?_
        refine g_iload_n (pc := 22) X 0 rfl dX8_copyFrom_22 ?_
        refine g_ialdI (pc := 23) X 9 rfl (b_i.1) (by omega) (Int.le_trans b_i.2 (by decide)) dX8_copyFrom_23 ?_
        refine g_nameI (fun y7 ey7 => ?_)
        have by7 : (-1) ≤ y7 ∧ y7 ≤ 3 := by rw [ey7]; exact h_Sp _ (by omega)
        refine g_iastG (pc := 24) X 1 rfl (b_i.1) (by omega) (Int.le_trans b_i.2 (by decide)) (ws' := fun F8 => [cO_rrrrirrr d0 8 d_papers d_starts d_bases d_hungs de d_endPapers d_endLengths d_endPhases, cA Z d_papers 0 6 F8, cA Z d_starts 0 6 Ds1, cA Z d_bases 0 6 Db1, cA Z d_hungs 0 6 Dh1, cA Z d_endPapers 0 10 Dep, cA Z d_endLengths 0 10 Del, cA Z d_endPhases 0 10 Def, cO_rrrrirrr s0 8 s_papers s_starts s_bases s_hungs se s_endPapers s_endLengths s_endPhases, cA Z s_papers 0 6 Sp, cA Z s_starts 0 6 Ss, cA Z s_bases 0 6 Sb, cA Z s_hungs 0 6 Sh, cA Z s_endPapers 0 10 Sep, cA Z s_endLengths 0 10 Sel, cA Z s_endPhases 0 10 Sef]) (fun _ => rfl) dX8_copyFrom_24 (fun F8 eF8 => ?_)
        have hF8 : ∀ j, j < 6 → (-1) ≤ F8 j ∧ F8 j ≤ 3 := by rw [eF8]; exact updI_B h_Dp1 (by omega)
        refine g_aload_n (pc := 25) X 1 rfl dX8_copyFrom_25 ?_
        refine g_get (pc := 26) X inlX8 0 rfl rfl 1 (by decide) mw_4_2 rfl dX8_copyFrom_26 ?_
        refine g_iload_n (pc := 29) X 0 rfl dX8_copyFrom_29 ?_
        refine g_aload_n (pc := 30) X 2 rfl dX8_copyFrom_30 ?_
        refine g_get (pc := 31) X inlX8 8 rfl rfl 1 (by decide) mw_4_2 rfl dX8_copyFrom_31 ?_
        refine g_iload_n (pc := 34) X 0 rfl dX8_copyFrom_34 ?_
        refine g_ialdI (pc := 35) X 10 rfl (b_i.1) (by omega) (Int.le_trans b_i.2 (by decide)) dX8_copyFrom_35 ?_
        refine g_nameI (fun y9 ey9 => ?_)
        have by9 : 0 ≤ y9 ∧ y9 ≤ 4799 := by rw [ey9]; exact h_Ss _ (by omega)
        refine g_iastG (pc := 36) X 2 rfl (b_i.1) (by omega) (Int.le_trans b_i.2 (by decide)) (ws' := fun F10 => [cO_rrrrirrr d0 8 d_papers d_starts d_bases d_hungs de d_endPapers d_endLengths d_endPhases, cA Z d_papers 0 6 F8, cA Z d_starts 0 6 F10, cA Z d_bases 0 6 Db1, cA Z d_hungs 0 6 Dh1, cA Z d_endPapers 0 10 Dep, cA Z d_endLengths 0 10 Del, cA Z d_endPhases 0 10 Def, cO_rrrrirrr s0 8 s_papers s_starts s_bases s_hungs se s_endPapers s_endLengths s_endPhases, cA Z s_papers 0 6 Sp, cA Z s_starts 0 6 Ss, cA Z s_bases 0 6 Sb, cA Z s_hungs 0 6 Sh, cA Z s_endPapers 0 10 Sep, cA Z s_endLengths 0 10 Sel, cA Z s_endPhases 0 10 Sef]) (fun _ => rfl) dX8_copyFrom_36 (fun F10 eF10 => ?_)
        have hF10 : ∀ j, j < 6 → 0 ≤ F10 j ∧ F10 j ≤ 4799 := by rw [eF10]; exact updI_B h_Ds1 (by omega)
        refine g_aload_n (pc := 37) X 1 rfl dX8_copyFrom_37 ?_
        refine g_get (pc := 38) X inlX8 0 rfl rfl 2 (by decide) mw_4_3 rfl dX8_copyFrom_38 ?_
        refine g_iload_n (pc := 41) X 0 rfl dX8_copyFrom_41 ?_
        refine g_aload_n (pc := 42) X 2 rfl dX8_copyFrom_42 ?_
        refine g_get (pc := 43) X inlX8 8 rfl rfl 2 (by decide) mw_4_3 rfl dX8_copyFrom_43 ?_
        refine g_iload_n (pc := 46) X 0 rfl dX8_copyFrom_46 ?_
        refine g_ialdI (pc := 47) X 11 rfl (b_i.1) (by omega) (Int.le_trans b_i.2 (by decide)) dX8_copyFrom_47 ?_
        refine g_nameI (fun y11 ey11 => ?_)
        have by11 : 0 ≤ y11 ∧ y11 ≤ 119 := by rw [ey11]; exact h_Sb _ (by omega)
        refine g_iastG (pc := 48) X 3 rfl (b_i.1) (by omega) (Int.le_trans b_i.2 (by decide)) (ws' := fun F12 => [cO_rrrrirrr d0 8 d_papers d_starts d_bases d_hungs de d_endPapers d_endLengths d_endPhases, cA Z d_papers 0 6 F8, cA Z d_starts 0 6 F10, cA Z d_bases 0 6 F12, cA Z d_hungs 0 6 Dh1, cA Z d_endPapers 0 10 Dep, cA Z d_endLengths 0 10 Del, cA Z d_endPhases 0 10 Def, cO_rrrrirrr s0 8 s_papers s_starts s_bases s_hungs se s_endPapers s_endLengths s_endPhases, cA Z s_papers 0 6 Sp, cA Z s_starts 0 6 Ss, cA Z s_bases 0 6 Sb, cA Z s_hungs 0 6 Sh, cA Z s_endPapers 0 10 Sep, cA Z s_endLengths 0 10 Sel, cA Z s_endPhases 0 10 Sef]) (fun _ => rfl) dX8_copyFrom_48 (fun F12 eF12 => ?_)
        have hF12 : ∀ j, j < 6 → 0 ≤ F12 j ∧ F12 j ≤ 119 := by rw [eF12]; exact updI_B h_Db1 (by omega)
        refine g_aload_n (pc := 49) X 1 rfl dX8_copyFrom_49 ?_
        refine g_get (pc := 50) X inlX8 0 rfl rfl 3 (by decide) mw_4_4 rfl dX8_copyFrom_50 ?_
        refine g_iload_n (pc := 53) X 0 rfl dX8_copyFrom_53 ?_
        refine g_aload_n (pc := 54) X 2 rfl dX8_copyFrom_54 ?_
        refine g_get (pc := 55) X inlX8 8 rfl rfl 3 (by decide) mw_4_4 rfl dX8_copyFrom_55 ?_
        refine g_iload_n (pc := 58) X 0 rfl dX8_copyFrom_58 ?_
        refine g_ialdI (pc := 59) X 12 rfl (b_i.1) (by omega) (Int.le_trans b_i.2 (by decide)) dX8_copyFrom_59 ?_
        refine g_nameI (fun y13 ey13 => ?_)
        have by13 : 0 ≤ y13 ∧ y13 ≤ 240 := by rw [ey13]; exact h_Sh _ (by omega)
        refine g_iastG (pc := 60) X 4 rfl (b_i.1) (by omega) (Int.le_trans b_i.2 (by decide)) (ws' := fun F14 => [cO_rrrrirrr d0 8 d_papers d_starts d_bases d_hungs de d_endPapers d_endLengths d_endPhases, cA Z d_papers 0 6 F8, cA Z d_starts 0 6 F10, cA Z d_bases 0 6 F12, cA Z d_hungs 0 6 F14, cA Z d_endPapers 0 10 Dep, cA Z d_endLengths 0 10 Del, cA Z d_endPhases 0 10 Def, cO_rrrrirrr s0 8 s_papers s_starts s_bases s_hungs se s_endPapers s_endLengths s_endPhases, cA Z s_papers 0 6 Sp, cA Z s_starts 0 6 Ss, cA Z s_bases 0 6 Sb, cA Z s_hungs 0 6 Sh, cA Z s_endPapers 0 10 Sep, cA Z s_endLengths 0 10 Sel, cA Z s_endPhases 0 10 Sef]) (fun _ => rfl) dX8_copyFrom_60 (fun F14 eF14 => ?_)
        have hF14 : ∀ j, j < 6 → 0 ≤ F14 j ∧ F14 j ≤ 240 := by rw [eF14]; exact updI_B h_Dh1 (by omega)
        refine g_iincI (pc := 61) X 0 rfl (by decide) (lv' := [(2, .int (iI (i + 1))), (0, .ref d0), (1, .ref s0)]) rfl dX8_copyFrom_61 ?_
        refine g_goto (pc := 64) X 7 (by decide) dX8_copyFrom_64 ?_
        exact ih (i + 1) F8 F10 F12 F14 (by omega) (hF8) (hF10) (hF12) (hF14) (by omega)
  exact loop7 _ 0 Dp Ds Db Dh (by omega) (h_Dp) (h_Ds) (h_Db) (h_Dh) (Nat.lt_succ_self _)
