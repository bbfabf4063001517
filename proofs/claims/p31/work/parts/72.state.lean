set_option maxHeartbeats 4000000 in
set_option maxRecDepth 100000 in
theorem k_X8_leastOne (l : Launch) (Z : gZ) (s0 : Nat) (s_papers : Nat) (s_starts : Nat) (s_bases : Nat) (s_hungs : Nat) (s_endPapers : Nat) (s_endLengths : Nat) (s_endPhases : Nat) (fi : Int) (se : Int) (b_fi : (-2147483648) ≤ fi ∧ fi ≤ 2147483647) (b_se : 0 ≤ se ∧ se ≤ 10) : Con l Z yX8_leastOne cX8_leastOne 2 (some .int) 0 0 0 0 [.ref s0, .int (iI fi)] [cO_rrrrirrr s0 8 s_papers s_starts s_bases s_hungs se s_endPapers s_endLengths s_endPhases] (fun r w' => ∃ (y : Int), (r = some (.int (iI y))) ∧ (w' = [cO_rrrrirrr s0 8 s_papers s_starts s_bases s_hungs se s_endPapers s_endLengths s_endPhases]) ∧ ((-2147483648) ≤ y ∧ y ≤ 2147483647)) := by
  refine enter (by decide) (Nat.le_of_ble_eq_true rfl) ?_
  intro p e s m args below meth c A X hnm hA
  have X : Cx p s m args meth c cX8_leastOne 2 (some .int) RX8 Z A := X
  refine g_as (pc' := 0) (lv' := [(0, .ref s0), (1, .int (iI fi))]) (st' := []) (ws' := [cO_rrrrirrr s0 8 s_papers s_starts s_bases s_hungs se s_endPapers s_endLengths s_endPhases]) rfl rfl rfl rfl ?_
  refine g_iload_n (pc := 0) X 1 rfl dX8_leastOne_0 ?_
  refine g_if_neI (pc := 1) X 8 (by decide) b_fi dX8_leastOne_1 (fun c1 => ?_) (fun c1 => ?_)
  · refine g_iload_n (pc := 8) X 1 rfl dX8_leastOne_8 ?_
    refine g_iload_n (pc := 9) X 1 rfl dX8_leastOne_9 ?_
    refine g_inegI (pc := 10) X dX8_leastOne_10 ?_
    refine g_any (fun y1 by1 => ?_)
    refine g_iand (pc := 11) X dX8_leastOne_11 ?_
    refine g_any (fun y2 by2 => ?_)
    exact g_iret (pc := 12) X hA (⟨y2, rfl, rfl, (by2)⟩) (by decide) (by decide) dX8_leastOne_12
  · refine g_iconst (pc := 4) X (iI (-1)) (by rfl) dX8_leastOne_4 ?_
    refine g_goto (pc := 5) X 12 (by decide) dX8_leastOne_5 ?_
    exact g_iret (pc := 12) X hA (⟨(-1), rfl, rfl, (by omega)⟩) (by decide) (by decide) dX8_leastOne_12

set_option maxHeartbeats 4000000 in
set_option maxRecDepth 100000 in
theorem k_X8_leastPair (l : Launch) (Z : gZ) (s0 : Nat) (s_papers : Nat) (s_starts : Nat) (s_bases : Nat) (s_hungs : Nat) (s_endPapers : Nat) (s_endLengths : Nat) (s_endPhases : Nat) (fi : Int) (fo : Int) (se : Int) (b_fi : (-2147483648) ≤ fi ∧ fi ≤ 2147483647) (b_fo : (-2147483648) ≤ fo ∧ fo ≤ 2147483647) (b_se : 0 ≤ se ∧ se ≤ 10) : Con l Z yX8_leastPair cX8_leastPair 7 (some .int) 1 21 0 0 [.ref s0, .int (iI fi), .int (iI fo)] [cO_rrrrirrr s0 8 s_papers s_starts s_bases s_hungs se s_endPapers s_endLengths s_endPhases] (fun r w' => ∃ (y : Int), (r = some (.int (iI y))) ∧ (w' = [cO_rrrrirrr s0 8 s_papers s_starts s_bases s_hungs se s_endPapers s_endLengths s_endPhases]) ∧ ((-2147483648) ≤ y ∧ y ≤ 2147483647)) := by
  refine enter (by decide) (Nat.le_of_ble_eq_true rfl) ?_
  intro p e s m args below meth c A X hnm hA
  have X : Cx p s m args meth c cX8_leastPair 7 (some .int) RX8 Z A := X
  refine g_as (pc' := 0) (lv' := [(0, .ref s0), (1, .int (iI fi)), (2, .int (iI fo))]) (st' := []) (ws' := [cO_rrrrirrr s0 8 s_papers s_starts s_bases s_hungs se s_endPapers s_endLengths s_endPhases]) rfl rfl rfl rfl ?_
  refine g_iconst (pc := 0) X (iI (-1)) (by rfl) dX8_leastPair_0 ?_
  refine g_istore_n (pc := 1) X (i := 3) rfl (by decide) (lv' := [(3, .int (iI (-1))), (0, .ref s0), (1, .int (iI fi)), (2, .int (iI fo))]) rfl dX8_leastPair_1 ?_
  refine g_iconst (pc := 2) X (iI 0) (by rfl) dX8_leastPair_2 ?_
  refine g_istore (pc := 3) X (by decide) (lv' := [(4, .int (iI 0)), (3, .int (iI (-1))), (0, .ref s0), (1, .int (iI fi)), (2, .int (iI fo))]) rfl dX8_leastPair_3 ?_
  have loop5 : ∀ (fuel : Nat) (le : Int) (i : Int), ((-2147483648) ≤ le ∧ le ≤ 2147483647) → (0 ≤ i ∧ i ≤ 10) → (11 - i).toNat < fuel → Gs p l e ({ frames := 1, cells := 0, slots := 0, locals := 21 } : Room) s m args below meth c (MQ below (gPost Z [cO_rrrrirrr s0 8 s_papers s_starts s_bases s_hungs se s_endPapers s_endLengths s_endPhases] s.heap.size (fun r w' => ∃ (y : Int), (r = some (.int (iI y))) ∧ (w' = [cO_rrrrirrr s0 8 s_papers s_starts s_bases s_hungs se s_endPapers s_endLengths s_endPhases]) ∧ ((-2147483648) ≤ y ∧ y ≤ 2147483647))) args s 0 0 (va_A [cO_rrrrirrr s0 8 s_papers s_starts s_bases s_hungs se s_endPapers s_endLengths s_endPhases] s.heap.size)) Z A 7 0 0 5 [(4, .int (iI i)), (3, .int (iI le)), (0, .ref s0), (1, .int (iI fi)), (2, .int (iI fo))] [] [cO_rrrrirrr s0 8 s_papers s_starts s_bases s_hungs se s_endPapers s_endLengths s_endPhases] := by
    intro fuel
    induction fuel with
    | zero => intro le i _ _ hm; exact absurd hm (Nat.not_lt_zero _)
    | succ fuel ih =>
      intro le i b_le b_i hm
      refine g_iload (pc := 5) X 0 rfl dX8_leastPair_5 ?_
      refine g_aload_n (pc := 7) X 2 rfl dX8_leastPair_7 ?_
      refine g_get (pc := 8) X inlX8 0 rfl rfl 4 (by decide) mw_51_10 rfl dX8_leastPair_8 ?_
      refine g_icmp_geI (pc := 11) X 71 (by decide) (inRb b_i (by decide) (by decide)) (inRb b_se (by decide) (by decide)) dX8_leastPair_11 (fun c11 => ?_) (fun c11 => ?_)
      · refine g_iload_n (pc := 71) X 1 rfl dX8_leastPair_71 ?_
        exact g_iret (pc := 72) X hA (⟨le, rfl, rfl, (b_le)⟩) (by decide) (by decide) dX8_leastPair_72
      · refine g_iload_n (pc := 14) X 3 rfl dX8_leastPair_14 ?_
        refine g_iconst (pc := 15) X (iI 1) (by rfl) dX8_leastPair_15 ?_
        refine g_iload (pc := 16) X 0 rfl dX8_leastPair_16 ?_
        refine g_shl1 (pc := 18) X (by omega) (by omega) dX8_leastPair_18 (fun y1 ey1 => ?_)
        have by1 : 1 ≤ y1 ∧ y1 ≤ 512 := pow2B 9 (by decide) (by omega) (by omega) ey1
        refine g_iandR (pc := 19) X (by omega) (by omega) dX8_leastPair_19 (fun y2 by2 => ?_)
        refine g_istore (pc := 20) X (by decide) (lv' := [(5, .int (iI y2)), (4, .int (iI i)), (3, .int (iI le)), (0, .ref s0), (1, .int (iI fi)), (2, .int (iI fo))]) rfl dX8_leastPair_20 ?_
        refine g_aload_n (pc := 22) X 3 rfl dX8_leastPair_22 ?_
        refine g_iload_n (pc := 23) X 5 rfl dX8_leastPair_23 ?_
        refine g_iload (pc := 24) X 0 rfl dX8_leastPair_24 ?_
        refine g_iconst (pc := 26) X (iI (-1)) (by rfl) dX8_leastPair_26 ?_
        refine g_ixor (pc := 27) X dX8_leastPair_27 ?_
        refine g_any (fun y3 by3 => ?_)
        refine g_iand (pc := 28) X dX8_leastPair_28 ?_
        refine g_any (fun y4 by4 => ?_)
        refine g_callV (pc := 29) X (k_X8_leastOne l Z s0 s_papers s_starts s_bases s_hungs s_endPapers s_endLengths s_endPhases y4 se by4 b_se) iM_X8_leastOne mw_52_11 mw_52_12 mw_52_13 0 rfl rfl [0] [] rfl (wr := []) rfl (by decide) rfl rfl (Nat.le_of_ble_eq_true rfl) (by decide) dX8_leastPair_29 (fun r w' hpo => ?_)
        refine exN_1 hpo fun y5 hz => anD_3 hz fun e_r e_w hf29_b_y => ?_; clear hz hpo; subst e_r; subst e_w
        refine g_as (pc' := 32) (lv' := [(5, .int (iI y2)), (4, .int (iI i)), (3, .int (iI le)), (0, .ref s0), (1, .int (iI fi)), (2, .int (iI fo))]) (st' := [.int (iI y5)]) (ws' := [cO_rrrrirrr s0 8 s_papers s_starts s_bases s_hungs se s_endPapers s_endLengths s_endPhases]) rfl rfl rfl rfl ?_
        refine g_istore (pc := 32) X (by decide) (lv' := [(6, .int (iI y5)), (5, .int (iI y2)), (4, .int (iI i)), (3, .int (iI le)), (0, .ref s0), (1, .int (iI fi)), (2, .int (iI fo))]) rfl dX8_leastPair_32 ?_
        refine g_iload (pc := 34) X 1 rfl dX8_leastPair_34 ?_
        refine g_if_eqI (pc := 36) X 65 (by decide) ⟨by omega, by omega⟩ dX8_leastPair_36 (fun c36 => ?_) (fun c36 => ?_)
        · refine g_iincI (pc := 65) X 2 rfl (by decide) (lv' := [(4, .int (iI (i + 1))), (6, .int (iI y5)), (5, .int (iI y2)), (3, .int (iI le)), (0, .ref s0), (1, .int (iI fi)), (2, .int (iI fo))]) rfl dX8_leastPair_65 ?_
          refine g_goto (pc := 68) X 5 (by decide) dX8_leastPair_68 ?_
          refine g_lv (lv' := [(4, .int (iI (i + 1))), (3, .int (iI le)), (0, .ref s0), (1, .int (iI fi)), (2, .int (iI fo))]) [0, 3, 4, 5, 6] rfl ?_
          exact ih le (i + 1) (b_le) (by omega) (by omega)
        · refine g_iload (pc := 39) X 0 rfl dX8_leastPair_39 ?_
          refine g_iconst (pc := 41) X (iI (-1)) (by rfl) dX8_leastPair_41 ?_
          refine g_icmp_eqI (pc := 42) X 65 (by decide) hf29_b_y ⟨by decide, by decide⟩ dX8_leastPair_42 (fun c42 => ?_) (fun c42 => ?_)
          · refine g_iincI (pc := 65) X 2 rfl (by decide) (lv' := [(4, .int (iI (i + 1))), (6, .int (iI y5)), (5, .int (iI y2)), (3, .int (iI le)), (0, .ref s0), (1, .int (iI fi)), (2, .int (iI fo))]) rfl dX8_leastPair_65 ?_
            refine g_goto (pc := 68) X 5 (by decide) dX8_leastPair_68 ?_
            refine g_lv (lv' := [(4, .int (iI (i + 1))), (3, .int (iI le)), (0, .ref s0), (1, .int (iI fi)), (2, .int (iI fo))]) [0, 3, 4, 5, 6] rfl ?_
            exact ih le (i + 1) (b_le) (by omega) (by omega)
          · refine g_iload_n (pc := 45) X 3 rfl dX8_leastPair_45 ?_
            refine g_iconst (pc := 46) X (iI (-1)) (by rfl) dX8_leastPair_46 ?_
            refine g_icmp_eqI (pc := 47) X 59 (by decide) b_le ⟨by decide, by decide⟩ dX8_leastPair_47 (fun c47 => ?_) (fun c47 => ?_)
            · refine g_iload (pc := 59) X 1 rfl dX8_leastPair_59 ?_
              refine g_iload (pc := 61) X 0 rfl dX8_leastPair_61 ?_
              refine g_ior (pc := 63) X dX8_leastPair_63 ?_
              refine g_any (fun y7 by7 => ?_)
              refine g_istore_n (pc := 64) X (i := 3) rfl (by decide) (lv' := [(3, .int (iI y7)), (6, .int (iI y5)), (5, .int (iI y2)), (4, .int (iI i)), (0, .ref s0), (1, .int (iI fi)), (2, .int (iI fo))]) rfl dX8_leastPair_64 ?_
              refine g_iincI (pc := 65) X 3 rfl (by decide) (lv' := [(4, .int (iI (i + 1))), (3, .int (iI y7)), (6, .int (iI y5)), (5, .int (iI y2)), (0, .ref s0), (1, .int (iI fi)), (2, .int (iI fo))]) rfl dX8_leastPair_65 ?_
              refine g_goto (pc := 68) X 5 (by decide) dX8_leastPair_68 ?_
              refine g_lv (lv' := [(4, .int (iI (i + 1))), (3, .int (iI y7)), (0, .ref s0), (1, .int (iI fi)), (2, .int (iI fo))]) [0, 1, 4, 5, 6] rfl ?_
              exact ih y7 (i + 1) (by7) (by omega) (by omega)
            · refine g_iload (pc := 50) X 1 rfl dX8_leastPair_50 ?_
              refine g_iload (pc := 52) X 0 rfl dX8_leastPair_52 ?_
              refine g_ior (pc := 54) X dX8_leastPair_54 ?_
              refine g_any (fun y8 by8 => ?_)
              refine g_iload_n (pc := 55) X 3 rfl dX8_leastPair_55 ?_
              refine g_icmp_geI (pc := 56) X 65 (by decide) by8 b_le dX8_leastPair_56 (fun c56 => ?_) (fun c56 => ?_)
              · refine g_iincI (pc := 65) X 2 rfl (by decide) (lv' := [(4, .int (iI (i + 1))), (6, .int (iI y5)), (5, .int (iI y2)), (3, .int (iI le)), (0, .ref s0), (1, .int (iI fi)), (2, .int (iI fo))]) rfl dX8_leastPair_65 ?_
                refine g_goto (pc := 68) X 5 (by decide) dX8_leastPair_68 ?_
                refine g_lv (lv' := [(4, .int (iI (i + 1))), (3, .int (iI le)), (0, .ref s0), (1, .int (iI fi)), (2, .int (iI fo))]) [0, 3, 4, 5, 6] rfl ?_
                exact ih le (i + 1) (b_le) (by omega) (by omega)
              · refine g_iload (pc := 59) X 1 rfl dX8_leastPair_59 ?_
                refine g_iload (pc := 61) X 0 rfl dX8_leastPair_61 ?_
                refine g_ior (pc := 63) X dX8_leastPair_63 ?_
                refine g_any (fun y9 by9 => ?_)
                refine g_istore_n (pc := 64) X (i := 3) rfl (by decide) (lv' := [(3, .int (iI y9)), (6, .int (iI y5)), (5, .int (iI y2)), (4, .int (iI i)), (0, .ref s0), (1, .int (iI fi)), (2, .int (iI fo))]) rfl dX8_leastPair_64 ?_
                refine g_iincI (pc := 65) X 3 rfl (by decide) (lv' := [(4, .int (iI (i + 1))), (3, .int (iI y9)), (6, .int (iI y5)), (5, .int (iI y2)), (0, .ref s0), (1, .int (iI fi)), (2, .int (iI fo))]) rfl dX8_leastPair_65 ?_
                refine g_goto (pc := 68) X 5 (by decide) dX8_leastPair_68 ?_
                refine g_lv (lv' := [(4, .int (iI (i + 1))), (3, .int (iI y9)), (0, .ref s0), (1, .int (iI fi)), (2, .int (iI fo))]) [0, 1, 4, 5, 6] rfl ?_
                exact ih y9 (i + 1) (by9) (by omega) (by omega)
  exact loop5 _ (-1) 0 (by omega) (by omega) (Nat.lt_succ_self _)

set_option maxHeartbeats 4000000 in
set_option maxRecDepth 100000 in
theorem k_X8_endsFor (l : Launch) (Z : gZ) (s0 : Nat) (l0 : Nat) (s_papers : Nat) (s_starts : Nat) (s_bases : Nat) (s_hungs : Nat) (s_endPapers : Nat) (s_endLengths : Nat) (s_endPhases : Nat) (r0 : Nat) (p0 : Nat) (l_talls : Nat) (l_firsts : Nat) (l_stripsOf : Nat) (l_froms : Nat) (l_tos : Nat) (l_longs : Nat) (l_phases : Nat) (l_rollsOf : Nat) (l_placesOf : Nat) (Sep : Nat → Int) (Sel : Nat → Int) (Sef : Nat → Int) (Lph : Nat → Int) (Llg : Nat → Int) (pi : Int) (pp : Int) (se : Int) (ls : Int) (lb : Int) (lt : Int) (lp : Int) (lc : Int) (pw : Int) (pr : Int) (pd : Int) (pl : Int) (pf : Int) (pg : Int) (b_pi : (-2147483648) ≤ pi ∧ pi ≤ 2147483647) (b_pp : (-2147483648) ≤ pp ∧ pp ≤ 2147483647) (b_se : 0 ≤ se ∧ se ≤ 10) (b_ls : 0 ≤ ls ∧ ls ≤ 4799) (b_lb : 0 ≤ lb ∧ lb ≤ 119) (b_lt : 0 ≤ lt ∧ lt ≤ 20) (b_lp : 0 ≤ lp ∧ lp ≤ 240) (b_lc : 0 ≤ lc ∧ lc ≤ 480) (b_pw : 20 ≤ pw ∧ pw ≤ 120) (b_pr : 10 ≤ pr ∧ pr ≤ 120) (b_pd : 0 ≤ pd ∧ pd ≤ 2) (b_pl : 300 ≤ pl ∧ pl ≤ 2000) (b_pf : 0 ≤ pf ∧ pf ≤ 119) (b_pg : 1 ≤ pg ∧ pg ≤ 120) (h_Sep : ∀ j, j < 10 → 0 ≤ Sep j ∧ Sep j ≤ 3) (h_Sel : ∀ j, j < 10 → 0 ≤ Sel j ∧ Sel j ≤ 2000) (h_Sef : ∀ j, j < 10 → 0 ≤ Sef j ∧ Sef j ≤ 119) (h_Lph : ∀ j, j < 480 → 0 ≤ Lph j ∧ Lph j ≤ 119) (h_Llg : ∀ j, j < 480 → (-2147483648) ≤ Llg j ∧ Llg j ≤ 2147483647) : Con l Z yX8_endsFor cX8_endsFor 6 (some .int) 3 67 0 0 [.ref s0, .ref l0, .int (iI pi), .int (iI pp)] [cO_rrrrirrr s0 8 s_papers s_starts s_bases s_hungs se s_endPapers s_endLengths s_endPhases, cA Z s_endPapers 0 10 Sep, cA Z s_endLengths 0 10 Sel, cA Z s_endPhases 0 10 Sef, cO_rriiiirrirrrrrrr l0 2 r0 p0 ls lb lt lp l_talls l_firsts lc l_stripsOf l_froms l_tos l_longs l_phases l_rollsOf l_placesOf, cO_iiiiii p0 3 pw pr pd pl pf pg, cA Z l_phases 0 480 Lph, cA Z l_longs 0 480 Llg] (fun r w' => ∃ (y : Int), (r = some (.int (iI y))) ∧ (w' = [cO_rrrrirrr s0 8 s_papers s_starts s_bases s_hungs se s_endPapers s_endLengths s_endPhases, cA Z s_endPapers 0 10 Sep, cA Z s_endLengths 0 10 Sel, cA Z s_endPhases 0 10 Sef, cO_rriiiirrirrrrrrr l0 2 r0 p0 ls lb lt lp l_talls l_firsts lc l_stripsOf l_froms l_tos l_longs l_phases l_rollsOf l_placesOf, cO_iiiiii p0 3 pw pr pd pl pf pg, cA Z l_phases 0 480 Lph, cA Z l_longs 0 480 Llg]) ∧ ((-2147483648) ≤ y ∧ y ≤ 2147483647)) := by
  refine enter (by decide) (Nat.le_of_ble_eq_true rfl) ?_
  intro p e s m args below meth c A X hnm hA
  have X : Cx p s m args meth c cX8_endsFor 6 (some .int) RX8 Z A := X
  refine g_as (pc' := 0) (lv' := [(0, .ref s0), (1, .ref l0), (2, .int (iI pi)), (3, .int (iI pp))]) (st' := []) (ws' := [cO_rrrrirrr s0 8 s_papers s_starts s_bases s_hungs se s_endPapers s_endLengths s_endPhases, cA Z s_endPapers 0 10 Sep, cA Z s_endLengths 0 10 Sel, cA Z s_endPhases 0 10 Sef, cO_rriiiirrirrrrrrr l0 2 r0 p0 ls lb lt lp l_talls l_firsts lc l_stripsOf l_froms l_tos l_longs l_phases l_rollsOf l_placesOf, cO_iiiiii p0 3 pw pr pd pl pf pg, cA Z l_phases 0 480 Lph, cA Z l_longs 0 480 Llg]) rfl rfl rfl rfl ?_
  refine g_iconst (pc := 0) X (iI 0) (by rfl) dX8_endsFor_0 ?_
  refine g_istore (pc := 1) X (by decide) (lv' := [(4, .int (iI 0)), (0, .ref s0), (1, .ref l0), (2, .int (iI pi)), (3, .int (iI pp))]) rfl dX8_endsFor_1 ?_
  refine g_iconst (pc := 3) X (iI 0) (by rfl) dX8_endsFor_3 ?_
  refine g_istore (pc := 4) X (by decide) (lv' := [(5, .int (iI 0)), (4, .int (iI 0)), (0, .ref s0), (1, .ref l0), (2, .int (iI pi)), (3, .int (iI pp))]) rfl dX8_endsFor_4 ?_
  have loop6 : ∀ (fuel : Nat) (t : Int) (i : Int), ((-2147483648) ≤ t ∧ t ≤ 2147483647) → (0 ≤ i ∧ i ≤ 10) → (11 - i).toNat < fuel → Gs p l e ({ frames := 3, cells := 0, slots := 0, locals := 67 } : Room) s m args below meth c (MQ below (gPost Z [cO_rrrrirrr s0 8 s_papers s_starts s_bases s_hungs se s_endPapers s_endLengths s_endPhases, cA Z s_endPapers 0 10 Sep, cA Z s_endLengths 0 10 Sel, cA Z s_endPhases 0 10 Sef, cO_rriiiirrirrrrrrr l0 2 r0 p0 ls lb lt lp l_talls l_firsts lc l_stripsOf l_froms l_tos l_longs l_phases l_rollsOf l_placesOf, cO_iiiiii p0 3 pw pr pd pl pf pg, cA Z l_phases 0 480 Lph, cA Z l_longs 0 480 Llg] s.heap.size (fun r w' => ∃ (y : Int), (r = some (.int (iI y))) ∧ (w' = [cO_rrrrirrr s0 8 s_papers s_starts s_bases s_hungs se s_endPapers s_endLengths s_endPhases, cA Z s_endPapers 0 10 Sep, cA Z s_endLengths 0 10 Sel, cA Z s_endPhases 0 10 Sef, cO_rriiiirrirrrrrrr l0 2 r0 p0 ls lb lt lp l_talls l_firsts lc l_stripsOf l_froms l_tos l_longs l_phases l_rollsOf l_placesOf, cO_iiiiii p0 3 pw pr pd pl pf pg, cA Z l_phases 0 480 Lph, cA Z l_longs 0 480 Llg]) ∧ ((-2147483648) ≤ y ∧ y ≤ 2147483647))) args s 0 0 (va_A [cO_rrrrirrr s0 8 s_papers s_starts s_bases s_hungs se s_endPapers s_endLengths s_endPhases, cA Z s_endPapers 0 10 Sep, cA Z s_endLengths 0 10 Sel, cA Z s_endPhases 0 10 Sef, cO_rriiiirrirrrrrrr l0 2 r0 p0 ls lb lt lp l_talls l_firsts lc l_stripsOf l_froms l_tos l_longs l_phases l_rollsOf l_placesOf, cO_iiiiii p0 3 pw pr pd pl pf pg, cA Z l_phases 0 480 Lph, cA Z l_longs 0 480 Llg] s.heap.size)) Z A 6 0 0 6 [(5, .int (iI i)), (4, .int (iI t)), (0, .ref s0), (1, .ref l0), (2, .int (iI pi)), (3, .int (iI pp))] [] [cO_rrrrirrr s0 8 s_papers s_starts s_bases s_hungs se s_endPapers s_endLengths s_endPhases, cA Z s_endPapers 0 10 Sep, cA Z s_endLengths 0 10 Sel, cA Z s_endPhases 0 10 Sef, cO_rriiiirrirrrrrrr l0 2 r0 p0 ls lb lt lp l_talls l_firsts lc l_stripsOf l_froms l_tos l_longs l_phases l_rollsOf l_placesOf, cO_iiiiii p0 3 pw pr pd pl pf pg, cA Z l_phases 0 480 Lph, cA Z l_longs 0 480 Llg] := by
    intro fuel
    induction fuel with
    | zero => intro t i _ _ hm; exact absurd hm (Nat.not_lt_zero _)
    | succ fuel ih =>
      intro t i b_t b_i hm
      refine g_iload (pc := 6) X 0 rfl dX8_endsFor_6 ?_
      refine g_aload_n (pc := 8) X 2 rfl dX8_endsFor_8 ?_
      refine g_get (pc := 9) X inlX8 0 rfl rfl 4 (by decide) mw_51_10 rfl dX8_endsFor_9 ?_
      refine g_icmp_geI (pc := 12) X 63 (by decide) (inRb b_i (by decide) (by decide)) (inRb b_se (by decide) (by decide)) dX8_endsFor_12 (fun c12 => ?_) (fun c12 => ?_)
      · refine g_iload (pc := 63) X 1 rfl dX8_endsFor_63 ?_
        exact g_iret (pc := 65) X hA (⟨t, rfl, rfl, (b_t)⟩) (by decide) (by decide) dX8_endsFor_65
      · refine g_aload_n (pc := 15) X 2 rfl dX8_endsFor_15 ?_
        refine g_get (pc := 16) X inlX8 0 rfl rfl 5 (by decide) mw_4_5 rfl dX8_endsFor_16 ?_
        refine g_iload (pc := 19) X 0 rfl dX8_endsFor_19 ?_
        refine g_ialdI (pc := 21) X 1 rfl (b_i.1) (by (first | (clear b_pi b_pp b_se b_ls b_lb b_lt b_lp b_lc b_pw b_pr b_pd b_pl b_pf b_pg; omega) | omega)) (Int.le_trans b_i.2 (by decide)) dX8_endsFor_21 ?_
        refine g_nameI (fun y1 ey1 => ?_)
        have by1 : 0 ≤ y1 ∧ y1 ≤ 3 := by rw [ey1]; exact h_Sep _ (by (first | (clear b_pi b_pp b_se b_ls b_lb b_lt b_lp b_lc b_pw b_pr b_pd b_pl b_pf b_pg; omega) | omega))
        refine g_iload_n (pc := 22) X 5 rfl dX8_endsFor_22 ?_
        refine g_icmp_neI (pc := 23) X 57 (by decide) (inRb by1 (by decide) (by decide)) b_pp dX8_endsFor_23 (fun c23 => ?_) (fun c23 => ?_)
        · refine g_iincI (pc := 57) X 0 rfl (by decide) (lv' := [(5, .int (iI (i + 1))), (4, .int (iI t)), (0, .ref s0), (1, .ref l0), (2, .int (iI pi)), (3, .int (iI pp))]) rfl dX8_endsFor_57 ?_
          refine g_goto (pc := 60) X 6 (by decide) dX8_endsFor_60 ?_
          exact ih t (i + 1) (b_t) (by (first | (clear b_pi b_pp b_se b_ls b_lb b_lt b_lp b_lc b_pw b_pr b_pd b_pl b_pf b_pg; omega) | omega)) (by (first | (clear b_pi b_pp b_se b_ls b_lb b_lt b_lp b_lc b_pw b_pr b_pd b_pl b_pf b_pg; omega) | omega))
        · refine g_aload_n (pc := 26) X 3 rfl dX8_endsFor_26 ?_
          refine g_iload_n (pc := 27) X 4 rfl dX8_endsFor_27 ?_
          refine g_aload_n (pc := 28) X 2 rfl dX8_endsFor_28 ?_
          refine g_get (pc := 29) X inlX8 0 rfl rfl 6 (by decide) mw_4_6 rfl dX8_endsFor_29 ?_
          refine g_iload (pc := 32) X 0 rfl dX8_endsFor_32 ?_
          refine g_ialdI (pc := 34) X 2 rfl (b_i.1) (by (first | (clear b_pi b_pp b_se b_ls b_lb b_lt b_lp b_lc b_pw b_pr b_pd b_pl b_pf b_pg; omega) | omega)) (Int.le_trans b_i.2 (by decide)) dX8_endsFor_34 ?_
          refine g_nameI (fun y2 ey2 => ?_)
          have by2 : 0 ≤ y2 ∧ y2 ≤ 2000 := by rw [ey2]; exact h_Sel _ (by (first | (clear b_pi b_pp b_se b_ls b_lb b_lt b_lp b_lc b_pw b_pr b_pd b_pl b_pf b_pg; omega) | omega))
          refine g_aload_n (pc := 35) X 2 rfl dX8_endsFor_35 ?_
          refine g_get (pc := 36) X inlX8 0 rfl rfl 7 (by decide) mw_4_7 rfl dX8_endsFor_36 ?_
          refine g_iload (pc := 39) X 0 rfl dX8_endsFor_39 ?_
          refine g_ialdI (pc := 41) X 3 rfl (b_i.1) (by (first | (clear b_pi b_pp b_se b_ls b_lb b_lt b_lp b_lc b_pw b_pr b_pd b_pl b_pf b_pg; omega) | omega)) (Int.le_trans b_i.2 (by decide)) dX8_endsFor_41 ?_
          refine g_nameI (fun y3 ey3 => ?_)
          have by3 : 0 ≤ y3 ∧ y3 ≤ 119 := by rw [ey3]; exact h_Sef _ (by (first | (clear b_pi b_pp b_se b_ls b_lb b_lt b_lp b_lc b_pw b_pr b_pd b_pl b_pf b_pg; omega) | omega))
          refine g_callV (pc := 42) X (k_X2_fitsEnd l Z l0 r0 p0 l_talls l_firsts l_stripsOf l_froms l_tos l_longs l_phases l_rollsOf l_placesOf Lph Llg pi y2 y3 ls lb lt lp lc pw pr pd pl pf pg b_pi (by (first | (clear b_pi b_pp b_se b_ls b_lb b_lt b_lp b_lc b_pw b_pr b_pd b_pl b_pf b_pg; omega) | omega)) (by (first | (clear b_pi b_pp b_se b_ls b_lb b_lt b_lp b_lc b_pw b_pr b_pd b_pl b_pf b_pg; omega) | omega)) b_ls b_lb b_lt b_lp b_lc b_pw b_pr b_pd b_pl b_pf b_pg (h_Lph) (h_Llg)) iM_X2_fitsEnd mw_52_6 mw_52_7 mw_52_8 4 rfl rfl [4, 5, 6, 7] [0, 1, 2, 3] rfl (wr := [cO_rrrrirrr s0 8 s_papers s_starts s_bases s_hungs se s_endPapers s_endLengths s_endPhases, cA Z s_endPapers 0 10 Sep, cA Z s_endLengths 0 10 Sel, cA Z s_endPhases 0 10 Sef]) rfl (by decide) rfl rfl (Nat.le_of_ble_eq_true rfl) (by decide) dX8_endsFor_42 (fun r w' hpo => ?_)
          refine exN_1 hpo fun y4 hz => anD_3 hz fun e_r e_w hf42_b_y => ?_; clear hz hpo; subst e_r; subst e_w
          refine g_as (pc' := 45) (lv' := [(5, .int (iI i)), (4, .int (iI t)), (0, .ref s0), (1, .ref l0), (2, .int (iI pi)), (3, .int (iI pp))]) (st' := [.int (iI y4)]) (ws' := [cO_rrrrirrr s0 8 s_papers s_starts s_bases s_hungs se s_endPapers s_endLengths s_endPhases, cA Z s_endPapers 0 10 Sep, cA Z s_endLengths 0 10 Sel, cA Z s_endPhases 0 10 Sef, cO_rriiiirrirrrrrrr l0 2 r0 p0 ls lb lt lp l_talls l_firsts lc l_stripsOf l_froms l_tos l_longs l_phases l_rollsOf l_placesOf, cO_iiiiii p0 3 pw pr pd pl pf pg, cA Z l_phases 0 480 Lph, cA Z l_longs 0 480 Llg]) rfl rfl rfl rfl ?_
          refine g_if_eqI (pc := 45) X 57 (by decide) (inRb hf42_b_y (by decide) (by decide)) dX8_endsFor_45 (fun c45 => ?_) (fun c45 => ?_)
          · refine g_iincI (pc := 57) X 0 rfl (by decide) (lv' := [(5, .int (iI (i + 1))), (4, .int (iI t)), (0, .ref s0), (1, .ref l0), (2, .int (iI pi)), (3, .int (iI pp))]) rfl dX8_endsFor_57 ?_
            refine g_goto (pc := 60) X 6 (by decide) dX8_endsFor_60 ?_
            exact ih t (i + 1) (b_t) (by (first | (clear b_pi b_pp b_se b_ls b_lb b_lt b_lp b_lc b_pw b_pr b_pd b_pl b_pf b_pg; omega) | omega)) (by (first | (clear b_pi b_pp b_se b_ls b_lb b_lt b_lp b_lc b_pw b_pr b_pd b_pl b_pf b_pg; omega) | omega))
          · refine g_iload (pc := 48) X 1 rfl dX8_endsFor_48 ?_
            refine g_iconst (pc := 50) X (iI 1) (by rfl) dX8_endsFor_50 ?_
            refine g_iload (pc := 51) X 0 rfl dX8_endsFor_51 ?_
            refine g_shl1 (pc := 53) X (by (first | (clear b_pi b_pp b_se b_ls b_lb b_lt b_lp b_lc b_pw b_pr b_pd b_pl b_pf b_pg; omega) | omega)) (by (first | (clear b_pi b_pp b_se b_ls b_lb b_lt b_lp b_lc b_pw b_pr b_pd b_pl b_pf b_pg; omega) | omega)) dX8_endsFor_53 (fun y6 ey6 => ?_)
            have by6 : 1 ≤ y6 ∧ y6 ≤ 512 := pow2B 9 (by decide) (by (first | (clear b_pi b_pp b_se b_ls b_lb b_lt b_lp b_lc b_pw b_pr b_pd b_pl b_pf b_pg; omega) | omega)) (by (first | (clear b_pi b_pp b_se b_ls b_lb b_lt b_lp b_lc b_pw b_pr b_pd b_pl b_pf b_pg; omega) | omega)) ey6
            refine g_ior (pc := 54) X dX8_endsFor_54 ?_
            refine g_any (fun y7 by7 => ?_)
            refine g_istore (pc := 55) X (by decide) (lv' := [(4, .int (iI y7)), (5, .int (iI i)), (0, .ref s0), (1, .ref l0), (2, .int (iI pi)), (3, .int (iI pp))]) rfl dX8_endsFor_55 ?_
            refine g_iincI (pc := 57) X 1 rfl (by decide) (lv' := [(5, .int (iI (i + 1))), (4, .int (iI y7)), (0, .ref s0), (1, .ref l0), (2, .int (iI pi)), (3, .int (iI pp))]) rfl dX8_endsFor_57 ?_
            refine g_goto (pc := 60) X 6 (by decide) dX8_endsFor_60 ?_
            exact ih y7 (i + 1) (by7) (by (first | (clear b_pi b_pp b_se b_ls b_lb b_lt b_lp b_lc b_pw b_pr b_pd b_pl b_pf b_pg; omega) | omega)) (by (first | (clear b_pi b_pp b_se b_ls b_lb b_lt b_lp b_lc b_pw b_pr b_pd b_pl b_pf b_pg; omega) | omega))
  exact loop6 _ 0 0 (by (first | (clear b_pi b_pp b_se b_ls b_lb b_lt b_lp b_lc b_pw b_pr b_pd b_pl b_pf b_pg; omega) | omega)) (by (first | (clear b_pi b_pp b_se b_ls b_lb b_lt b_lp b_lc b_pw b_pr b_pd b_pl b_pf b_pg; omega) | omega)) (Nat.lt_succ_self _)

set_option maxHeartbeats 4000000 in
set_option maxRecDepth 100000 in
theorem k_X8_leastEndsFor (l : Launch) (Z : gZ) (s0 : Nat) (l0 : Nat) (s_papers : Nat) (s_starts : Nat) (s_bases : Nat) (s_hungs : Nat) (s_endPapers : Nat) (s_endLengths : Nat) (s_endPhases : Nat) (r0 : Nat) (p0 : Nat) (l_talls : Nat) (l_firsts : Nat) (l_stripsOf : Nat) (l_froms : Nat) (l_tos : Nat) (l_longs : Nat) (l_phases : Nat) (l_rollsOf : Nat) (l_placesOf : Nat) (Sep : Nat → Int) (Sel : Nat → Int) (Sef : Nat → Int) (Lph : Nat → Int) (Llg : Nat → Int) (Lf : Nat → Int) (sp : Int) (pp : Int) (se : Int) (ls : Int) (lb : Int) (lt : Int) (lp : Int) (lc : Int) (pw : Int) (pr : Int) (pd : Int) (pl : Int) (pf : Int) (pg : Int) (b_sp : (-2147483648) ≤ sp ∧ sp ≤ 2147483647) (b_pp : (-2147483648) ≤ pp ∧ pp ≤ 2147483647) (b_se : 0 ≤ se ∧ se ≤ 10) (b_ls : 0 ≤ ls ∧ ls ≤ 4799) (b_lb : 0 ≤ lb ∧ lb ≤ 119) (b_lt : 0 ≤ lt ∧ lt ≤ 20) (b_lp : 0 ≤ lp ∧ lp ≤ 240) (b_lc : 0 ≤ lc ∧ lc ≤ 480) (b_pw : 20 ≤ pw ∧ pw ≤ 120) (b_pr : 10 ≤ pr ∧ pr ≤ 120) (b_pd : 0 ≤ pd ∧ pd ≤ 2) (b_pl : 300 ≤ pl ∧ pl ≤ 2000) (b_pf : 0 ≤ pf ∧ pf ≤ 119) (b_pg : 1 ≤ pg ∧ pg ≤ 120) (h_Sep : ∀ j, j < 10 → 0 ≤ Sep j ∧ Sep j ≤ 3) (h_Sel : ∀ j, j < 10 → 0 ≤ Sel j ∧ Sel j ≤ 2000) (h_Sef : ∀ j, j < 10 → 0 ≤ Sef j ∧ Sef j ≤ 119) (h_Lph : ∀ j, j < 480 → 0 ≤ Lph j ∧ Lph j ≤ 119) (h_Llg : ∀ j, j < 480 → (-2147483648) ≤ Llg j ∧ Llg j ≤ 2147483647) (h_Lf : ∀ j, j < 241 → 0 ≤ Lf j ∧ Lf j ≤ 480) : Con l Z yX8_leastEndsFor cX8_leastEndsFor 7 (some .int) 4 92 0 0 [.ref s0, .ref l0, .int (iI sp), .int (iI pp)] [cO_rrrrirrr s0 8 s_papers s_starts s_bases s_hungs se s_endPapers s_endLengths s_endPhases, cA Z s_endPapers 0 10 Sep, cA Z s_endLengths 0 10 Sel, cA Z s_endPhases 0 10 Sef, cO_rriiiirrirrrrrrr l0 2 r0 p0 ls lb lt lp l_talls l_firsts lc l_stripsOf l_froms l_tos l_longs l_phases l_rollsOf l_placesOf, cO_iiiiii p0 3 pw pr pd pl pf pg, cA Z l_phases 0 480 Lph, cA Z l_longs 0 480 Llg, cA Z l_firsts 0 241 Lf] (fun r w' => ∃ (y : Int), (r = some (.int (iI y))) ∧ (w' = [cO_rrrrirrr s0 8 s_papers s_starts s_bases s_hungs se s_endPapers s_endLengths s_endPhases, cA Z s_endPapers 0 10 Sep, cA Z s_endLengths 0 10 Sel, cA Z s_endPhases 0 10 Sef, cO_rriiiirrirrrrrrr l0 2 r0 p0 ls lb lt lp l_talls l_firsts lc l_stripsOf l_froms l_tos l_longs l_phases l_rollsOf l_placesOf, cO_iiiiii p0 3 pw pr pd pl pf pg, cA Z l_phases 0 480 Lph, cA Z l_longs 0 480 Llg, cA Z l_firsts 0 241 Lf]) ∧ ((-2147483648) ≤ y ∧ y ≤ 2147483647)) := by
  refine enter (by decide) (Nat.le_of_ble_eq_true rfl) ?_
  intro p e s m args below meth c A X hnm hA
  have X : Cx p s m args meth c cX8_leastEndsFor 7 (some .int) RX8 Z A := X
  refine g_as (pc' := 0) (lv' := [(0, .ref s0), (1, .ref l0), (2, .int (iI sp)), (3, .int (iI pp))]) (st' := []) (ws' := [cO_rrrrirrr s0 8 s_papers s_starts s_bases s_hungs se s_endPapers s_endLengths s_endPhases, cA Z s_endPapers 0 10 Sep, cA Z s_endLengths 0 10 Sel, cA Z s_endPhases 0 10 Sef, cO_rriiiirrirrrrrrr l0 2 r0 p0 ls lb lt lp l_talls l_firsts lc l_stripsOf l_froms l_tos l_longs l_phases l_rollsOf l_placesOf, cO_iiiiii p0 3 pw pr pd pl pf pg, cA Z l_phases 0 480 Lph, cA Z l_longs 0 480 Llg, cA Z l_firsts 0 241 Lf]) rfl rfl rfl rfl ?_
  refine g_aload_n (pc := 0) X 1 rfl dX8_leastEndsFor_0 ?_
  refine g_ifnull (pc := 1) X dX8_leastEndsFor_1 ?_
  refine g_iconst (pc := 4) X (iI 0) (by rfl) dX8_leastEndsFor_4 ?_
  refine g_iload_n (pc := 5) X 2 rfl dX8_leastEndsFor_5 ?_
  refine g_aload_n (pc := 6) X 1 rfl dX8_leastEndsFor_6 ?_
  refine g_get (pc := 7) X inlX2 4 rfl rfl 5 (by decide) mw_52_0 rfl dX8_leastEndsFor_7 ?_
  refine g_iconst (pc := 10) X (iI 1) (by rfl) dX8_leastEndsFor_10 ?_
  refine g_isubI (pc := 11) X dX8_leastEndsFor_11 ?_
  refine g_callSN (pc := 12) X (k_X11_isFrom l Z 0 sp (lp - 1) (by decide) b_sp (by (first | (clear b_pp b_se b_ls b_lb b_lt b_lc b_pw b_pr b_pd b_pl b_pf b_pg; omega) | omega))) iM_X11_isFrom (by decide) mw_11_7 [] [0, 1, 2, 3, 4, 5, 6, 7, 8] rfl (wr := [cO_rrrrirrr s0 8 s_papers s_starts s_bases s_hungs se s_endPapers s_endLengths s_endPhases, cA Z s_endPapers 0 10 Sep, cA Z s_endLengths 0 10 Sel, cA Z s_endPhases 0 10 Sef, cO_rriiiirrirrrrrrr l0 2 r0 p0 ls lb lt lp l_talls l_firsts lc l_stripsOf l_froms l_tos l_longs l_phases l_rollsOf l_placesOf, cO_iiiiii p0 3 pw pr pd pl pf pg, cA Z l_phases 0 480 Lph, cA Z l_longs 0 480 Llg, cA Z l_firsts 0 241 Lf]) rfl (by decide) rfl rfl (Nat.le_of_ble_eq_true rfl) (by decide) dX8_leastEndsFor_12 (fun r w' hpo => ?_)
  obtain ⟨rfl, rfl⟩ := hpo
  refine g_as (pc' := 15) (lv' := [(0, .ref s0), (1, .ref l0), (2, .int (iI sp)), (3, .int (iI pp))]) (st' := [.int (iI (bI (0 ≤ sp ∧ sp ≤ (lp - 1))))]) (ws' := [cO_rrrrirrr s0 8 s_papers s_starts s_bases s_hungs se s_endPapers s_endLengths s_endPhases, cA Z s_endPapers 0 10 Sep, cA Z s_endLengths 0 10 Sel, cA Z s_endPhases 0 10 Sef, cO_rriiiirrirrrrrrr l0 2 r0 p0 ls lb lt lp l_talls l_firsts lc l_stripsOf l_froms l_tos l_longs l_phases l_rollsOf l_placesOf, cO_iiiiii p0 3 pw pr pd pl pf pg, cA Z l_phases 0 480 Lph, cA Z l_longs 0 480 Llg, cA Z l_firsts 0 241 Lf]) rfl rfl rfl rfl ?_
  refine g_if_neB (pc := 15) X 20 (by decide) dX8_leastEndsFor_15 (fun c15 => ?_) (fun c15 => ?_)
  · refine g_aload_n (pc := 20) X 1 rfl dX8_leastEndsFor_20 ?_
    refine g_get (pc := 21) X inlX2 4 rfl rfl 7 (by decide) mw_52_1 rfl dX8_leastEndsFor_21 ?_
    refine g_iload_n (pc := 24) X 2 rfl dX8_leastEndsFor_24 ?_
    refine g_ialdI (pc := 25) X 8 rfl (by (first | (clear b_pp b_se b_ls b_lb b_lt b_lc b_pw b_pr b_pd b_pl b_pf b_pg; omega) | omega)) (by (first | (clear b_pp b_se b_ls b_lb b_lt b_lc b_pw b_pr b_pd b_pl b_pf b_pg; omega) | omega)) (Int.le_trans b_sp.2 (by decide)) dX8_leastEndsFor_25 ?_
    refine g_nameI (fun y2 ey2 => ?_)
    have by2 : 0 ≤ y2 ∧ y2 ≤ 480 := by rw [ey2]; exact h_Lf _ (by (first | (clear b_pp b_se b_ls b_lb b_lt b_lc b_pw b_pr b_pd b_pl b_pf b_pg; omega) | omega))
    refine g_istore (pc := 26) X (by decide) (lv' := [(4, .int (iI y2)), (0, .ref s0), (1, .ref l0), (2, .int (iI sp)), (3, .int (iI pp))]) rfl dX8_leastEndsFor_26 ?_
    refine g_aload_n (pc := 28) X 2 rfl dX8_leastEndsFor_28 ?_
    refine g_get (pc := 29) X inlX2 4 rfl rfl 7 (by decide) mw_52_1 rfl dX8_leastEndsFor_29 ?_
    refine g_iload_n (pc := 32) X 3 rfl dX8_leastEndsFor_32 ?_
    refine g_iconst (pc := 33) X (iI 1) (by rfl) dX8_leastEndsFor_33 ?_
    refine g_iaddI (pc := 34) X dX8_leastEndsFor_34 ?_
    refine g_ialdI (pc := 35) X 8 rfl (by (first | (clear b_pp b_se b_ls b_lb b_lt b_lc b_pw b_pr b_pd b_pl b_pf b_pg; omega) | omega)) (by (first | (clear b_pp b_se b_ls b_lb b_lt b_lc b_pw b_pr b_pd b_pl b_pf b_pg; omega) | omega)) (by (first | (clear b_pp b_se b_ls b_lb b_lt b_lc b_pw b_pr b_pd b_pl b_pf b_pg; omega) | omega)) dX8_leastEndsFor_35 ?_
    refine g_nameI (fun y3 ey3 => ?_)
    have by3 : 0 ≤ y3 ∧ y3 ≤ 480 := by rw [ey3]; exact h_Lf _ (by (first | (clear b_pp b_se b_ls b_lb b_lt b_lc b_pw b_pr b_pd b_pl b_pf b_pg; omega) | omega))
    refine g_iload (pc := 36) X 0 rfl dX8_leastEndsFor_36 ?_
    refine g_isubI (pc := 38) X dX8_leastEndsFor_38 ?_
    refine g_istore (pc := 39) X (by decide) (lv' := [(5, .int (iI (y3 - y2))), (4, .int (iI y2)), (0, .ref s0), (1, .ref l0), (2, .int (iI sp)), (3, .int (iI pp))]) rfl dX8_leastEndsFor_39 ?_
    refine g_iload (pc := 41) X 0 rfl dX8_leastEndsFor_41 ?_
    refine g_if_neI (pc := 43) X 48 (by decide) ⟨by (first | (clear b_pp b_se b_ls b_lb b_lt b_lc b_pw b_pr b_pd b_pl b_pf b_pg; omega) | omega), by (first | (clear b_pp b_se b_ls b_lb b_lt b_lc b_pw b_pr b_pd b_pl b_pf b_pg; omega) | omega)⟩ dX8_leastEndsFor_43 (fun c43 => ?_) (fun c43 => ?_)
    · refine g_aload_n (pc := 48) X 2 rfl dX8_leastEndsFor_48 ?_
      refine g_aload_n (pc := 49) X 3 rfl dX8_leastEndsFor_49 ?_
      refine g_iload (pc := 50) X 1 rfl dX8_leastEndsFor_50 ?_
      refine g_iload_n (pc := 52) X 5 rfl dX8_leastEndsFor_52 ?_
      refine g_callV (pc := 53) X (k_X8_endsFor l Z s0 l0 s_papers s_starts s_bases s_hungs s_endPapers s_endLengths s_endPhases r0 p0 l_talls l_firsts l_stripsOf l_froms l_tos l_longs l_phases l_rollsOf l_placesOf Sep Sel Sef Lph Llg y2 pp se ls lb lt lp lc pw pr pd pl pf pg (by (first | (clear b_pp b_se b_ls b_lb b_lt b_lc b_pw b_pr b_pd b_pl b_pf b_pg; omega) | omega)) b_pp b_se b_ls b_lb b_lt b_lp b_lc b_pw b_pr b_pd b_pl b_pf b_pg (h_Sep) (h_Sel) (h_Sef) (h_Lph) (h_Llg)) iM_X8_endsFor mw_52_2 mw_52_3 mw_52_4 0 rfl rfl [0, 1, 2, 3, 4, 5, 6, 7] [8] rfl (wr := [cA Z l_firsts 0 241 Lf]) rfl (by decide) rfl rfl (Nat.le_of_ble_eq_true rfl) (by decide) dX8_leastEndsFor_53 (fun r w' hpo => ?_)
      refine exN_1 hpo fun y4 hz => anD_3 hz fun e_r e_w hf53_b_y => ?_; clear hz hpo; subst e_r; subst e_w
      refine g_as (pc' := 56) (lv' := [(5, .int (iI (y3 - y2))), (4, .int (iI y2)), (0, .ref s0), (1, .ref l0), (2, .int (iI sp)), (3, .int (iI pp))]) (st' := [.int (iI y4)]) (ws' := [cA Z l_firsts 0 241 Lf, cO_rrrrirrr s0 8 s_papers s_starts s_bases s_hungs se s_endPapers s_endLengths s_endPhases, cA Z s_endPapers 0 10 Sep, cA Z s_endLengths 0 10 Sel, cA Z s_endPhases 0 10 Sef, cO_rriiiirrirrrrrrr l0 2 r0 p0 ls lb lt lp l_talls l_firsts lc l_stripsOf l_froms l_tos l_longs l_phases l_rollsOf l_placesOf, cO_iiiiii p0 3 pw pr pd pl pf pg, cA Z l_phases 0 480 Lph, cA Z l_longs 0 480 Llg]) rfl rfl rfl rfl ?_
      refine g_istore (pc := 56) X (by decide) (lv' := [(6, .int (iI y4)), (5, .int (iI (y3 - y2))), (4, .int (iI y2)), (0, .ref s0), (1, .ref l0), (2, .int (iI sp)), (3, .int (iI pp))]) rfl dX8_leastEndsFor_56 ?_
      refine g_iload (pc := 58) X 1 rfl dX8_leastEndsFor_58 ?_
      refine g_iconst (pc := 60) X (iI 1) (by rfl) dX8_leastEndsFor_60 ?_
      refine g_icmp_neI (pc := 61) X 73 (by decide) ⟨by (first | (clear b_pp b_se b_ls b_lb b_lt b_lc b_pw b_pr b_pd b_pl b_pf b_pg; omega) | omega), by (first | (clear b_pp b_se b_ls b_lb b_lt b_lc b_pw b_pr b_pd b_pl b_pf b_pg; omega) | omega)⟩ ⟨by decide, by decide⟩ dX8_leastEndsFor_61 (fun c61 => ?_) (fun c61 => ?_)
      · refine g_aload_n (pc := 73) X 3 rfl dX8_leastEndsFor_73 ?_
        refine g_iload (pc := 74) X 0 rfl dX8_leastEndsFor_74 ?_
        refine g_aload_n (pc := 76) X 3 rfl dX8_leastEndsFor_76 ?_
        refine g_aload_n (pc := 77) X 4 rfl dX8_leastEndsFor_77 ?_
        refine g_iload (pc := 78) X 2 rfl dX8_leastEndsFor_78 ?_
        refine g_iconst (pc := 80) X (iI 1) (by rfl) dX8_leastEndsFor_80 ?_
        refine g_iaddI (pc := 81) X dX8_leastEndsFor_81 ?_
        refine g_iload_n (pc := 82) X 6 rfl dX8_leastEndsFor_82 ?_
        refine g_callV (pc := 83) X (k_X8_endsFor l Z s0 l0 s_papers s_starts s_bases s_hungs s_endPapers s_endLengths s_endPhases r0 p0 l_talls l_firsts l_stripsOf l_froms l_tos l_longs l_phases l_rollsOf l_placesOf Sep Sel Sef Lph Llg (y2 + 1) pp se ls lb lt lp lc pw pr pd pl pf pg (by (first | (clear b_pp b_se b_ls b_lb b_lt b_lc b_pw b_pr b_pd b_pl b_pf b_pg; omega) | omega)) b_pp b_se b_ls b_lb b_lt b_lp b_lc b_pw b_pr b_pd b_pl b_pf b_pg (h_Sep) (h_Sel) (h_Sef) (h_Lph) (h_Llg)) iM_X8_endsFor mw_52_2 mw_52_3 mw_52_4 1 rfl rfl [1, 2, 3, 4, 5, 6, 7, 8] [0] rfl (wr := [cA Z l_firsts 0 241 Lf]) rfl (by decide) rfl rfl (Nat.le_of_ble_eq_true rfl) (by decide) dX8_leastEndsFor_83 (fun r w' hpo => ?_)
        refine exN_1 hpo fun y6 hz => anD_3 hz fun e_r e_w hf83_b_y => ?_; clear hz hpo; subst e_r; subst e_w
        refine g_as (pc' := 86) (lv' := [(6, .int (iI y4)), (5, .int (iI (y3 - y2))), (4, .int (iI y2)), (0, .ref s0), (1, .ref l0), (2, .int (iI sp)), (3, .int (iI pp))]) (st' := [.int (iI y6), .int (iI y4), .ref s0]) (ws' := [cA Z l_firsts 0 241 Lf, cO_rrrrirrr s0 8 s_papers s_starts s_bases s_hungs se s_endPapers s_endLengths s_endPhases, cA Z s_endPapers 0 10 Sep, cA Z s_endLengths 0 10 Sel, cA Z s_endPhases 0 10 Sef, cO_rriiiirrirrrrrrr l0 2 r0 p0 ls lb lt lp l_talls l_firsts lc l_stripsOf l_froms l_tos l_longs l_phases l_rollsOf l_placesOf, cO_iiiiii p0 3 pw pr pd pl pf pg, cA Z l_phases 0 480 Lph, cA Z l_longs 0 480 Llg]) rfl rfl rfl rfl ?_
        refine g_callV (pc := 86) X (k_X8_leastPair l Z s0 s_papers s_starts s_bases s_hungs s_endPapers s_endLengths s_endPhases y4 y6 se hf53_b_y hf83_b_y b_se) iM_X8_leastPair mw_52_15 mw_52_16 mw_52_17 1 rfl rfl [1] [0, 2, 3, 4, 5, 6, 7, 8] rfl (wr := [cA Z l_firsts 0 241 Lf, cA Z s_endPapers 0 10 Sep, cA Z s_endLengths 0 10 Sel, cA Z s_endPhases 0 10 Sef, cO_rriiiirrirrrrrrr l0 2 r0 p0 ls lb lt lp l_talls l_firsts lc l_stripsOf l_froms l_tos l_longs l_phases l_rollsOf l_placesOf, cO_iiiiii p0 3 pw pr pd pl pf pg, cA Z l_phases 0 480 Lph, cA Z l_longs 0 480 Llg]) rfl (by decide) rfl rfl (Nat.le_of_ble_eq_true rfl) (by decide) dX8_leastEndsFor_86 (fun r w' hpo => ?_)
        refine exN_1 hpo fun y8 hz => anD_3 hz fun e_r e_w hf86_b_y => ?_; clear hz hpo; subst e_r; subst e_w
        refine g_as (pc' := 89) (lv' := [(6, .int (iI y4)), (5, .int (iI (y3 - y2))), (4, .int (iI y2)), (0, .ref s0), (1, .ref l0), (2, .int (iI sp)), (3, .int (iI pp))]) (st' := [.int (iI y8)]) (ws' := [cA Z l_firsts 0 241 Lf, cA Z s_endPapers 0 10 Sep, cA Z s_endLengths 0 10 Sel, cA Z s_endPhases 0 10 Sef, cO_rriiiirrirrrrrrr l0 2 r0 p0 ls lb lt lp l_talls l_firsts lc l_stripsOf l_froms l_tos l_longs l_phases l_rollsOf l_placesOf, cO_iiiiii p0 3 pw pr pd pl pf pg, cA Z l_phases 0 480 Lph, cA Z l_longs 0 480 Llg, cO_rrrrirrr s0 8 s_papers s_starts s_bases s_hungs se s_endPapers s_endLengths s_endPhases]) rfl rfl rfl rfl ?_
        refine g_ws (ws' := [cO_rrrrirrr s0 8 s_papers s_starts s_bases s_hungs se s_endPapers s_endLengths s_endPhases, cA Z s_endPapers 0 10 Sep, cA Z s_endLengths 0 10 Sel, cA Z s_endPhases 0 10 Sef, cO_rriiiirrirrrrrrr l0 2 r0 p0 ls lb lt lp l_talls l_firsts lc l_stripsOf l_froms l_tos l_longs l_phases l_rollsOf l_placesOf, cO_iiiiii p0 3 pw pr pd pl pf pg, cA Z l_phases 0 480 Lph, cA Z l_longs 0 480 Llg, cA Z l_firsts 0 241 Lf]) [8, 1, 2, 3, 4, 5, 6, 7, 0] (by decide) rfl ?_
        exact g_iret (pc := 89) X hA (⟨y8, rfl, rfl, (hf86_b_y)⟩) (by decide) (by decide) dX8_leastEndsFor_89
      · refine g_aload_n (pc := 64) X 3 rfl dX8_leastEndsFor_64 ?_
        refine g_iload (pc := 65) X 0 rfl dX8_leastEndsFor_65 ?_
        refine g_callV (pc := 67) X (k_X8_leastOne l Z s0 s_papers s_starts s_bases s_hungs s_endPapers s_endLengths s_endPhases y4 se hf53_b_y b_se) iM_X8_leastOne mw_52_11 mw_52_12 mw_52_13 1 rfl rfl [1] [0, 2, 3, 4, 5, 6, 7, 8] rfl (wr := [cA Z l_firsts 0 241 Lf, cA Z s_endPapers 0 10 Sep, cA Z s_endLengths 0 10 Sel, cA Z s_endPhases 0 10 Sef, cO_rriiiirrirrrrrrr l0 2 r0 p0 ls lb lt lp l_talls l_firsts lc l_stripsOf l_froms l_tos l_longs l_phases l_rollsOf l_placesOf, cO_iiiiii p0 3 pw pr pd pl pf pg, cA Z l_phases 0 480 Lph, cA Z l_longs 0 480 Llg]) rfl (by decide) rfl rfl (Nat.le_of_ble_eq_true rfl) (by decide) dX8_leastEndsFor_67 (fun r w' hpo => ?_)
        refine exN_1 hpo fun y10 hz => anD_3 hz fun e_r e_w hf67_b_y => ?_; clear hz hpo; subst e_r; subst e_w
        refine g_as (pc' := 70) (lv' := [(6, .int (iI y4)), (5, .int (iI (y3 - y2))), (4, .int (iI y2)), (0, .ref s0), (1, .ref l0), (2, .int (iI sp)), (3, .int (iI pp))]) (st' := [.int (iI y10)]) (ws' := [cA Z l_firsts 0 241 Lf, cA Z s_endPapers 0 10 Sep, cA Z s_endLengths 0 10 Sel, cA Z s_endPhases 0 10 Sef, cO_rriiiirrirrrrrrr l0 2 r0 p0 ls lb lt lp l_talls l_firsts lc l_stripsOf l_froms l_tos l_longs l_phases l_rollsOf l_placesOf, cO_iiiiii p0 3 pw pr pd pl pf pg, cA Z l_phases 0 480 Lph, cA Z l_longs 0 480 Llg, cO_rrrrirrr s0 8 s_papers s_starts s_bases s_hungs se s_endPapers s_endLengths s_endPhases]) rfl rfl rfl rfl ?_
        refine g_goto (pc := 70) X 89 (by decide) dX8_leastEndsFor_70 ?_
        refine g_ws (ws' := [cO_rrrrirrr s0 8 s_papers s_starts s_bases s_hungs se s_endPapers s_endLengths s_endPhases, cA Z s_endPapers 0 10 Sep, cA Z s_endLengths 0 10 Sel, cA Z s_endPhases 0 10 Sef, cO_rriiiirrirrrrrrr l0 2 r0 p0 ls lb lt lp l_talls l_firsts lc l_stripsOf l_froms l_tos l_longs l_phases l_rollsOf l_placesOf, cO_iiiiii p0 3 pw pr pd pl pf pg, cA Z l_phases 0 480 Lph, cA Z l_longs 0 480 Llg, cA Z l_firsts 0 241 Lf]) [8, 1, 2, 3, 4, 5, 6, 7, 0] (by decide) rfl ?_
        exact g_iret (pc := 89) X hA (⟨y10, rfl, rfl, (hf67_b_y)⟩) (by decide) (by decide) dX8_leastEndsFor_89
    · refine g_iconst (pc := 46) X (iI 0) (by rfl) dX8_leastEndsFor_46 ?_
      exact g_iret (pc := 47) X hA (⟨0, rfl, rfl, (by (first | (clear b_pp b_se b_ls b_lb b_lt b_lc b_pw b_pr b_pd b_pl b_pf b_pg; omega) | omega))⟩) (by decide) (by decide) dX8_leastEndsFor_47
  · refine g_iconst (pc := 18) X (iI (-1)) (by rfl) dX8_leastEndsFor_18 ?_
    exact g_iret (pc := 19) X hA (⟨(-1), rfl, rfl, (by (first | (clear b_pp b_se b_ls b_lb b_lt b_lc b_pw b_pr b_pd b_pl b_pf b_pg; omega) | omega))⟩) (by decide) (by decide) dX8_leastEndsFor_19
