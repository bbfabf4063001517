set_option maxHeartbeats 4000000 in
set_option maxRecDepth 100000 in
theorem c_copyFrom (l : Launch) (Z : gZ) (d0 : Nat) (n0 : Nat) (d_papers : Nat) (d_starts : Nat) (d_bases : Nat) (d_hungs : Nat) (d_endPapers : Nat) (d_endLengths : Nat) (d_endPhases : Nat) (n_papers : Nat) (n_starts : Nat) (n_bases : Nat) (n_hungs : Nat) (n_endPapers : Nat) (n_endLengths : Nat) (n_endPhases : Nat) (o1 : Nat → Int32) (o2 : Nat → Int32) (o3 : Nat → Int32) (o4 : Nat → Int32) (o5 : Nat → Int32) (o6 : Nat → Int32) (o7 : Nat → Int32) (p1 : Nat → Int32) (p2 : Nat → Int32) (p3 : Nat → Int32) (p4 : Nat → Int32) (p5 : Nat → Int32) (p6 : Nat → Int32) (p7 : Nat → Int32) : Con l Z yX8_copyFrom cX8_copyFrom 3 none 0 0 0 0 [.ref d0, .ref n0] [(d0, .inr (8, [.ref d_papers, .ref d_starts, .ref d_bases, .ref d_hungs, .int 0, .ref d_endPapers, .ref d_endLengths, .ref d_endPhases])), (d_papers, .inl (Z.2.1 0, 6, .inl o1)), (d_starts, .inl (Z.2.1 0, 6, .inl o2)), (d_bases, .inl (Z.2.1 0, 6, .inl o3)), (d_hungs, .inl (Z.2.1 0, 6, .inl o4)), (d_endPapers, .inl (Z.2.1 0, 10, .inl o5)), (d_endLengths, .inl (Z.2.1 0, 10, .inl o6)), (d_endPhases, .inl (Z.2.1 0, 10, .inl o7)), (n0, .inr (8, [.ref n_papers, .ref n_starts, .ref n_bases, .ref n_hungs, .int 0, .ref n_endPapers, .ref n_endLengths, .ref n_endPhases])), (n_papers, .inl (Z.2.1 0, 6, .inl p1)), (n_starts, .inl (Z.2.1 0, 6, .inl p2)), (n_bases, .inl (Z.2.1 0, 6, .inl p3)), (n_hungs, .inl (Z.2.1 0, 6, .inl p4)), (n_endPapers, .inl (Z.2.1 0, 10, .inl p5)), (n_endLengths, .inl (Z.2.1 0, 10, .inl p6)), (n_endPhases, .inl (Z.2.1 0, 10, .inl p7))] (fun r w' => r = none) := by
  refine enter (by decide) (Nat.le_of_ble_eq_true rfl) ?_
  intro p e s m args below meth c A X hnm hA
  have X : Cx p s m args meth c cX8_copyFrom 3 none RX8 Z A := X
  refine g_as (pc' := 0) (lv' := [(0, .ref d0), (1, .ref n0)]) (st' := []) (ws' := [(d0, .inr (8, [.ref d_papers, .ref d_starts, .ref d_bases, .ref d_hungs, .int 0, .ref d_endPapers, .ref d_endLengths, .ref d_endPhases])), (d_papers, .inl (Z.2.1 0, 6, .inl o1)), (d_starts, .inl (Z.2.1 0, 6, .inl o2)), (d_bases, .inl (Z.2.1 0, 6, .inl o3)), (d_hungs, .inl (Z.2.1 0, 6, .inl o4)), (d_endPapers, .inl (Z.2.1 0, 10, .inl o5)), (d_endLengths, .inl (Z.2.1 0, 10, .inl o6)), (d_endPhases, .inl (Z.2.1 0, 10, .inl o7)), (n0, .inr (8, [.ref n_papers, .ref n_starts, .ref n_bases, .ref n_hungs, .int 0, .ref n_endPapers, .ref n_endLengths, .ref n_endPhases])), (n_papers, .inl (Z.2.1 0, 6, .inl p1)), (n_starts, .inl (Z.2.1 0, 6, .inl p2)), (n_bases, .inl (Z.2.1 0, 6, .inl p3)), (n_hungs, .inl (Z.2.1 0, 6, .inl p4)), (n_endPapers, .inl (Z.2.1 0, 10, .inl p5)), (n_endLengths, .inl (Z.2.1 0, 10, .inl p6)), (n_endPhases, .inl (Z.2.1 0, 10, .inl p7))]) rfl rfl rfl rfl ?_
  refine g_aload_n (pc := 0) X 1 rfl dX8_copyFrom_0 ?_
  refine g_ifnonnull (pc := 1) X 5 (by decide) dX8_copyFrom_1 ?_
  refine g_iconst (pc := 5) X 0 (by decide) dX8_copyFrom_5 ?_
  refine g_istore_n (pc := 6) X (i := 2) rfl (by decide) (lv' := [(2, .int 0), (0, .ref d0), (1, .ref n0)]) rfl dX8_copyFrom_6 ?_
  refine g_iload_n (pc := 7) X 0 rfl dX8_copyFrom_7 ?_
  refine g_bipush (pc := 8) X 6 (by decide) dX8_copyFrom_8 ?_
  refine g_icmp_ge (pc := 10) X 67 (by decide) dX8_copyFrom_10 (fun h => absurd h (by decide)) (fun b10 => ?_)
  refine g_aload_n (pc := 13) X 1 rfl dX8_copyFrom_13 ?_
  refine g_get (pc := 14) X inlX8 0 rfl rfl 0 (by decide) mw_4_1 rfl dX8_copyFrom_14 ?_
  refine g_iload_n (pc := 17) X 0 rfl dX8_copyFrom_17 ?_
  refine g_aload_n (pc := 18) X 2 rfl dX8_copyFrom_18 ?_
  refine g_get (pc := 19) X inlX8 8 rfl rfl 0 (by decide) mw_4_1 rfl dX8_copyFrom_19 ?_
  refine g_iload_n (pc := 22) X 0 rfl dX8_copyFrom_22 ?_
  refine g_iald (pc := 23) X 9 rfl (vp_in_iff.mpr (by decide)) dX8_copyFrom_23 ?_
  refine g_iastF (pc := 24) X 1 rfl (vp_in_iff.mpr (by decide)) (ws' := fun f1 => [(d0, .inr (8, [.ref d_papers, .ref d_starts, .ref d_bases, .ref d_hungs, .int 0, .ref d_endPapers, .ref d_endLengths, .ref d_endPhases])), (d_papers, .inl (Z.2.1 0, 6, .inl f1)), (d_starts, .inl (Z.2.1 0, 6, .inl o2)), (d_bases, .inl (Z.2.1 0, 6, .inl o3)), (d_hungs, .inl (Z.2.1 0, 6, .inl o4)), (d_endPapers, .inl (Z.2.1 0, 10, .inl o5)), (d_endLengths, .inl (Z.2.1 0, 10, .inl o6)), (d_endPhases, .inl (Z.2.1 0, 10, .inl o7)), (n0, .inr (8, [.ref n_papers, .ref n_starts, .ref n_bases, .ref n_hungs, .int 0, .ref n_endPapers, .ref n_endLengths, .ref n_endPhases])), (n_papers, .inl (Z.2.1 0, 6, .inl p1)), (n_starts, .inl (Z.2.1 0, 6, .inl p2)), (n_bases, .inl (Z.2.1 0, 6, .inl p3)), (n_hungs, .inl (Z.2.1 0, 6, .inl p4)), (n_endPapers, .inl (Z.2.1 0, 10, .inl p5)), (n_endLengths, .inl (Z.2.1 0, 10, .inl p6)), (n_endPhases, .inl (Z.2.1 0, 10, .inl p7))]) (fun _ => rfl) dX8_copyFrom_24 (fun f1 => ?_)
  refine g_aload_n (pc := 25) X 1 rfl dX8_copyFrom_25 ?_
  refine g_get (pc := 26) X inlX8 0 rfl rfl 1 (by decide) mw_4_2 rfl dX8_copyFrom_26 ?_
  refine g_iload_n (pc := 29) X 0 rfl dX8_copyFrom_29 ?_
  refine g_aload_n (pc := 30) X 2 rfl dX8_copyFrom_30 ?_
  refine g_get (pc := 31) X inlX8 8 rfl rfl 1 (by decide) mw_4_2 rfl dX8_copyFrom_31 ?_
  refine g_iload_n (pc := 34) X 0 rfl dX8_copyFrom_34 ?_
  refine g_iald (pc := 35) X 10 rfl (vp_in_iff.mpr (by decide)) dX8_copyFrom_35 ?_
  refine g_iastF (pc := 36) X 2 rfl (vp_in_iff.mpr (by decide)) (ws' := fun f2 => [(d0, .inr (8, [.ref d_papers, .ref d_starts, .ref d_bases, .ref d_hungs, .int 0, .ref d_endPapers, .ref d_endLengths, .ref d_endPhases])), (d_papers, .inl (Z.2.1 0, 6, .inl f1)), (d_starts, .inl (Z.2.1 0, 6, .inl f2)), (d_bases, .inl (Z.2.1 0, 6, .inl o3)), (d_hungs, .inl (Z.2.1 0, 6, .inl o4)), (d_endPapers, .inl (Z.2.1 0, 10, .inl o5)), (d_endLengths, .inl (Z.2.1 0, 10, .inl o6)), (d_endPhases, .inl (Z.2.1 0, 10, .inl o7)), (n0, .inr (8, [.ref n_papers, .ref n_starts, .ref n_bases, .ref n_hungs, .int 0, .ref n_endPapers, .ref n_endLengths, .ref n_endPhases])), (n_papers, .inl (Z.2.1 0, 6, .inl p1)), (n_starts, .inl (Z.2.1 0, 6, .inl p2)), (n_bases, .inl (Z.2.1 0, 6, .inl p3)), (n_hungs, .inl (Z.2.1 0, 6, .inl p4)), (n_endPapers, .inl (Z.2.1 0, 10, .inl p5)), (n_endLengths, .inl (Z.2.1 0, 10, .inl p6)), (n_endPhases, .inl (Z.2.1 0, 10, .inl p7))]) (fun _ => rfl) dX8_copyFrom_36 (fun f2 => ?_)
  refine g_aload_n (pc := 37) X 1 rfl dX8_copyFrom_37 ?_
  refine g_get (pc := 38) X inlX8 0 rfl rfl 2 (by decide) mw_4_3 rfl dX8_copyFrom_38 ?_
  refine g_iload_n (pc := 41) X 0 rfl dX8_copyFrom_41 ?_
  refine g_aload_n (pc := 42) X 2 rfl dX8_copyFrom_42 ?_
  refine g_get (pc := 43) X inlX8 8 rfl rfl 2 (by decide) mw_4_3 rfl dX8_copyFrom_43 ?_
  refine g_iload_n (pc := 46) X 0 rfl dX8_copyFrom_46 ?_
  refine g_iald (pc := 47) X 11 rfl (vp_in_iff.mpr (by decide)) dX8_copyFrom_47 ?_
  refine g_iastF (pc := 48) X 3 rfl (vp_in_iff.mpr (by decide)) (ws' := fun f3 => [(d0, .inr (8, [.ref d_papers, .ref d_starts, .ref d_bases, .ref d_hungs, .int 0, .ref d_endPapers, .ref d_endLengths, .ref d_endPhases])), (d_papers, .inl (Z.2.1 0, 6, .inl f1)), (d_starts, .inl (Z.2.1 0, 6, .inl f2)), (d_bases, .inl (Z.2.1 0, 6, .inl f3)), (d_hungs, .inl (Z.2.1 0, 6, .inl o4)), (d_endPapers, .inl (Z.2.1 0, 10, .inl o5)), (d_endLengths, .inl (Z.2.1 0, 10, .inl o6)), (d_endPhases, .inl (Z.2.1 0, 10, .inl o7)), (n0, .inr (8, [.ref n_papers, .ref n_starts, .ref n_bases, .ref n_hungs, .int 0, .ref n_endPapers, .ref n_endLengths, .ref n_endPhases])), (n_papers, .inl (Z.2.1 0, 6, .inl p1)), (n_starts, .inl (Z.2.1 0, 6, .inl p2)), (n_bases, .inl (Z.2.1 0, 6, .inl p3)), (n_hungs, .inl (Z.2.1 0, 6, .inl p4)), (n_endPapers, .inl (Z.2.1 0, 10, .inl p5)), (n_endLengths, .inl (Z.2.1 0, 10, .inl p6)), (n_endPhases, .inl (Z.2.1 0, 10, .inl p7))]) (fun _ => rfl) dX8_copyFrom_48 (fun f3 => ?_)
  refine g_aload_n (pc := 49) X 1 rfl dX8_copyFrom_49 ?_
  refine g_get (pc := 50) X inlX8 0 rfl rfl 3 (by decide) mw_4_4 rfl dX8_copyFrom_50 ?_
  refine g_iload_n (pc := 53) X 0 rfl dX8_copyFrom_53 ?_
  refine g_aload_n (pc := 54) X 2 rfl dX8_copyFrom_54 ?_
  refine g_get (pc := 55) X inlX8 8 rfl rfl 3 (by decide) mw_4_4 rfl dX8_copyFrom_55 ?_
  refine g_iload_n (pc := 58) X 0 rfl dX8_copyFrom_58 ?_
  refine g_iald (pc := 59) X 12 rfl (vp_in_iff.mpr (by decide)) dX8_copyFrom_59 ?_
  refine g_iastF (pc := 60) X 4 rfl (vp_in_iff.mpr (by decide)) (ws' := fun f4 => [(d0, .inr (8, [.ref d_papers, .ref d_starts, .ref d_bases, .ref d_hungs, .int 0, .ref d_endPapers, .ref d_endLengths, .ref d_endPhases])), (d_papers, .inl (Z.2.1 0, 6, .inl f1)), (d_starts, .inl (Z.2.1 0, 6, .inl f2)), (d_bases, .inl (Z.2.1 0, 6, .inl f3)), (d_hungs, .inl (Z.2.1 0, 6, .inl f4)), (d_endPapers, .inl (Z.2.1 0, 10, .inl o5)), (d_endLengths, .inl (Z.2.1 0, 10, .inl o6)), (d_endPhases, .inl (Z.2.1 0, 10, .inl o7)), (n0, .inr (8, [.ref n_papers, .ref n_starts, .ref n_bases, .ref n_hungs, .int 0, .ref n_endPapers, .ref n_endLengths, .ref n_endPhases])), (n_papers, .inl (Z.2.1 0, 6, .inl p1)), (n_starts, .inl (Z.2.1 0, 6, .inl p2)), (n_bases, .inl (Z.2.1 0, 6, .inl p3)), (n_hungs, .inl (Z.2.1 0, 6, .inl p4)), (n_endPapers, .inl (Z.2.1 0, 10, .inl p5)), (n_endLengths, .inl (Z.2.1 0, 10, .inl p6)), (n_endPhases, .inl (Z.2.1 0, 10, .inl p7))]) (fun _ => rfl) dX8_copyFrom_60 (fun f4 => ?_)
  refine g_iinc (pc := 61) X 0 rfl (v := 1) (by decide) (by decide) (lv' := [(2, .int 1), (0, .ref d0), (1, .ref n0)]) rfl dX8_copyFrom_61 ?_
  refine g_goto (pc := 64) X 7 (by decide) dX8_copyFrom_64 ?_
  refine g_iload_n (pc := 7) X 0 rfl dX8_copyFrom_7 ?_
  refine g_bipush (pc := 8) X 6 (by decide) dX8_copyFrom_8 ?_
  refine g_icmp_ge (pc := 10) X 67 (by decide) dX8_copyFrom_10 (fun h => absurd h (by decide)) (fun b10 => ?_)
  refine g_aload_n (pc := 13) X 1 rfl dX8_copyFrom_13 ?_
  refine g_get (pc := 14) X inlX8 0 rfl rfl 0 (by decide) mw_4_1 rfl dX8_copyFrom_14 ?_
  refine g_iload_n (pc := 17) X 0 rfl dX8_copyFrom_17 ?_
  refine g_aload_n (pc := 18) X 2 rfl dX8_copyFrom_18 ?_
  refine g_get (pc := 19) X inlX8 8 rfl rfl 0 (by decide) mw_4_1 rfl dX8_copyFrom_19 ?_
  refine g_iload_n (pc := 22) X 0 rfl dX8_copyFrom_22 ?_
  refine g_iald (pc := 23) X 9 rfl (vp_in_iff.mpr (by decide)) dX8_copyFrom_23 ?_
  refine g_iastF (pc := 24) X 1 rfl (vp_in_iff.mpr (by decide)) (ws' := fun f5 => [(d0, .inr (8, [.ref d_papers, .ref d_starts, .ref d_bases, .ref d_hungs, .int 0, .ref d_endPapers, .ref d_endLengths, .ref d_endPhases])), (d_papers, .inl (Z.2.1 0, 6, .inl f5)), (d_starts, .inl (Z.2.1 0, 6, .inl f2)), (d_bases, .inl (Z.2.1 0, 6, .inl f3)), (d_hungs, .inl (Z.2.1 0, 6, .inl f4)), (d_endPapers, .inl (Z.2.1 0, 10, .inl o5)), (d_endLengths, .inl (Z.2.1 0, 10, .inl o6)), (d_endPhases, .inl (Z.2.1 0, 10, .inl o7)), (n0, .inr (8, [.ref n_papers, .ref n_starts, .ref n_bases, .ref n_hungs, .int 0, .ref n_endPapers, .ref n_endLengths, .ref n_endPhases])), (n_papers, .inl (Z.2.1 0, 6, .inl p1)), (n_starts, .inl (Z.2.1 0, 6, .inl p2)), (n_bases, .inl (Z.2.1 0, 6, .inl p3)), (n_hungs, .inl (Z.2.1 0, 6, .inl p4)), (n_endPapers, .inl (Z.2.1 0, 10, .inl p5)), (n_endLengths, .inl (Z.2.1 0, 10, .inl p6)), (n_endPhases, .inl (Z.2.1 0, 10, .inl p7))]) (fun _ => rfl) dX8_copyFrom_24 (fun f5 => ?_)
  refine g_aload_n (pc := 25) X 1 rfl dX8_copyFrom_25 ?_
  refine g_get (pc := 26) X inlX8 0 rfl rfl 1 (by decide) mw_4_2 rfl dX8_copyFrom_26 ?_
  refine g_iload_n (pc := 29) X 0 rfl dX8_copyFrom_29 ?_
  refine g_aload_n (pc := 30) X 2 rfl dX8_copyFrom_30 ?_
  refine g_get (pc := 31) X inlX8 8 rfl rfl 1 (by decide) mw_4_2 rfl dX8_copyFrom_31 ?_
  refine g_iload_n (pc := 34) X 0 rfl dX8_copyFrom_34 ?_
  refine g_iald (pc := 35) X 10 rfl (vp_in_iff.mpr (by decide)) dX8_copyFrom_35 ?_
  refine g_iastF (pc := 36) X 2 rfl (vp_in_iff.mpr (by decide)) (ws' := fun f6 => [(d0, .inr (8, [.ref d_papers, .ref d_starts, .ref d_bases, .ref d_hungs, .int 0, .ref d_endPapers, .ref d_endLengths, .ref d_endPhases])), (d_papers, .inl (Z.2.1 0, 6, .inl f5)), (d_starts, .inl (Z.2.1 0, 6, .inl f6)), (d_bases, .inl (Z.2.1 0, 6, .inl f3)), (d_hungs, .inl (Z.2.1 0, 6, .inl f4)), (d_endPapers, .inl (Z.2.1 0, 10, .inl o5)), (d_endLengths, .inl (Z.2.1 0, 10, .inl o6)), (d_endPhases, .inl (Z.2.1 0, 10, .inl o7)), (n0, .inr (8, [.ref n_papers, .ref n_starts, .ref n_bases, .ref n_hungs, .int 0, .ref n_endPapers, .ref n_endLengths, .ref n_endPhases])), (n_papers, .inl (Z.2.1 0, 6, .inl p1)), (n_starts, .inl (Z.2.1 0, 6, .inl p2)), (n_bases, .inl (Z.2.1 0, 6, .inl p3)), (n_hungs, .inl (Z.2.1 0, 6, .inl p4)), (n_endPapers, .inl (Z.2.1 0, 10, .inl p5)), (n_endLengths, .inl (Z.2.1 0, 10, .inl p6)), (n_endPhases, .inl (Z.2.1 0, 10, .inl p7))]) (fun _ => rfl) dX8_copyFrom_36 (fun f6 => ?_)
  refine g_aload_n (pc := 37) X 1 rfl dX8_copyFrom_37 ?_
  refine g_get (pc := 38) X inlX8 0 rfl rfl 2 (by decide) mw_4_3 rfl dX8_copyFrom_38 ?_
  refine g_iload_n (pc := 41) X 0 rfl dX8_copyFrom_41 ?_
  refine g_aload_n (pc := 42) X 2 rfl dX8_copyFrom_42 ?_
  refine g_get (pc := 43) X inlX8 8 rfl rfl 2 (by decide) mw_4_3 rfl dX8_copyFrom_43 ?_
  refine g_iload_n (pc := 46) X 0 rfl dX8_copyFrom_46 ?_
  refine g_iald (pc := 47) X 11 rfl (vp_in_iff.mpr (by decide)) dX8_copyFrom_47 ?_
  refine g_iastF (pc := 48) X 3 rfl (vp_in_iff.mpr (by decide)) (ws' := fun f7 => [(d0, .inr (8, [.ref d_papers, .ref d_starts, .ref d_bases, .ref d_hungs, .int 0, .ref d_endPapers, .ref d_endLengths, .ref d_endPhases])), (d_papers, .inl (Z.2.1 0, 6, .inl f5)), (d_starts, .inl (Z.2.1 0, 6, .inl f6)), (d_bases, .inl (Z.2.1 0, 6, .inl f7)), (d_hungs, .inl (Z.2.1 0, 6, .inl f4)), (d_endPapers, .inl (Z.2.1 0, 10, .inl o5)), (d_endLengths, .inl (Z.2.1 0, 10, .inl o6)), (d_endPhases, .inl (Z.2.1 0, 10, .inl o7)), (n0, .inr (8, [.ref n_papers, .ref n_starts, .ref n_bases, .ref n_hungs, .int 0, .ref n_endPapers, .ref n_endLengths, .ref n_endPhases])), (n_papers, .inl (Z.2.1 0, 6, .inl p1)), (n_starts, .inl (Z.2.1 0, 6, .inl p2)), (n_bases, .inl (Z.2.1 0, 6, .inl p3)), (n_hungs, .inl (Z.2.1 0, 6, .inl p4)), (n_endPapers, .inl (Z.2.1 0, 10, .inl p5)), (n_endLengths, .inl (Z.2.1 0, 10, .inl p6)), (n_endPhases, .inl (Z.2.1 0, 10, .inl p7))]) (fun _ => rfl) dX8_copyFrom_48 (fun f7 => ?_)
  refine g_aload_n (pc := 49) X 1 rfl dX8_copyFrom_49 ?_
  refine g_get (pc := 50) X inlX8 0 rfl rfl 3 (by decide) mw_4_4 rfl dX8_copyFrom_50 ?_
  refine g_iload_n (pc := 53) X 0 rfl dX8_copyFrom_53 ?_
  refine g_aload_n (pc := 54) X 2 rfl dX8_copyFrom_54 ?_
  refine g_get (pc := 55) X inlX8 8 rfl rfl 3 (by decide) mw_4_4 rfl dX8_copyFrom_55 ?_
  refine g_iload_n (pc := 58) X 0 rfl dX8_copyFrom_58 ?_
  refine g_iald (pc := 59) X 12 rfl (vp_in_iff.mpr (by decide)) dX8_copyFrom_59 ?_
  refine g_iastF (pc := 60) X 4 rfl (vp_in_iff.mpr (by decide)) (ws' := fun f8 => [(d0, .inr (8, [.ref d_papers, .ref d_starts, .ref d_bases, .ref d_hungs, .int 0, .ref d_endPapers, .ref d_endLengths, .ref d_endPhases])), (d_papers, .inl (Z.2.1 0, 6, .inl f5)), (d_starts, .inl (Z.2.1 0, 6, .inl f6)), (d_bases, .inl (Z.2.1 0, 6, .inl f7)), (d_hungs, .inl (Z.2.1 0, 6, .inl f8)), (d_endPapers, .inl (Z.2.1 0, 10, .inl o5)), (d_endLengths, .inl (Z.2.1 0, 10, .inl o6)), (d_endPhases, .inl (Z.2.1 0, 10, .inl o7)), (n0, .inr (8, [.ref n_papers, .ref n_starts, .ref n_bases, .ref n_hungs, .int 0, .ref n_endPapers, .ref n_endLengths, .ref n_endPhases])), (n_papers, .inl (Z.2.1 0, 6, .inl p1)), (n_starts, .inl (Z.2.1 0, 6, .inl p2)), (n_bases, .inl (Z.2.1 0, 6, .inl p3)), (n_hungs, .inl (Z.2.1 0, 6, .inl p4)), (n_endPapers, .inl (Z.2.1 0, 10, .inl p5)), (n_endLengths, .inl (Z.2.1 0, 10, .inl p6)), (n_endPhases, .inl (Z.2.1 0, 10, .inl p7))]) (fun _ => rfl) dX8_copyFrom_60 (fun f8 => ?_)
  refine g_iinc (pc := 61) X 0 rfl (v := 2) (by decide) (by decide) (lv' := [(2, .int 2), (0, .ref d0), (1, .ref n0)]) rfl dX8_copyFrom_61 ?_
  refine g_goto (pc := 64) X 7 (by decide) dX8_copyFrom_64 ?_
  refine g_iload_n (pc := 7) X 0 rfl dX8_copyFrom_7 ?_
  refine g_bipush (pc := 8) X 6 (by decide) dX8_copyFrom_8 ?_
  refine g_icmp_ge (pc := 10) X 67 (by decide) dX8_copyFrom_10 (fun h => absurd h (by decide)) (fun b10 => ?_)
  refine g_aload_n (pc := 13) X 1 rfl dX8_copyFrom_13 ?_
  refine g_get (pc := 14) X inlX8 0 rfl rfl 0 (by decide) mw_4_1 rfl dX8_copyFrom_14 ?_
  refine g_iload_n (pc := 17) X 0 rfl dX8_copyFrom_17 ?_
  refine g_aload_n (pc := 18) X 2 rfl dX8_copyFrom_18 ?_
  refine g_get (pc := 19) X inlX8 8 rfl rfl 0 (by decide) mw_4_1 rfl dX8_copyFrom_19 ?_
  refine g_iload_n (pc := 22) X 0 rfl dX8_copyFrom_22 ?_
  refine g_iald (pc := 23) X 9 rfl (vp_in_iff.mpr (by decide)) dX8_copyFrom_23 ?_
  refine g_iastF (pc := 24) X 1 rfl (vp_in_iff.mpr (by decide)) (ws' := fun f9 => [(d0, .inr (8, [.ref d_papers, .ref d_starts, .ref d_bases, .ref d_hungs, .int 0, .ref d_endPapers, .ref d_endLengths, .ref d_endPhases])), (d_papers, .inl (Z.2.1 0, 6, .inl f9)), (d_starts, .inl (Z.2.1 0, 6, .inl f6)), (d_bases, .inl (Z.2.1 0, 6, .inl f7)), (d_hungs, .inl (Z.2.1 0, 6, .inl f8)), (d_endPapers, .inl (Z.2.1 0, 10, .inl o5)), (d_endLengths, .inl (Z.2.1 0, 10, .inl o6)), (d_endPhases, .inl (Z.2.1 0, 10, .inl o7)), (n0, .inr (8, [.ref n_papers, .ref n_starts, .ref n_bases, .ref n_hungs, .int 0, .ref n_endPapers, .ref n_endLengths, .ref n_endPhases])), (n_papers, .inl (Z.2.1 0, 6, .inl p1)), (n_starts, .inl (Z.2.1 0, 6, .inl p2)), (n_bases, .inl (Z.2.1 0, 6, .inl p3)), (n_hungs, .inl (Z.2.1 0, 6, .inl p4)), (n_endPapers, .inl (Z.2.1 0, 10, .inl p5)), (n_endLengths, .inl (Z.2.1 0, 10, .inl p6)), (n_endPhases, .inl (Z.2.1 0, 10, .inl p7))]) (fun _ => rfl) dX8_copyFrom_24 (fun f9 => ?_)
  refine g_aload_n (pc := 25) X 1 rfl dX8_copyFrom_25 ?_
  refine g_get (pc := 26) X inlX8 0 rfl rfl 1 (by decide) mw_4_2 rfl dX8_copyFrom_26 ?_
  refine g_iload_n (pc := 29) X 0 rfl dX8_copyFrom_29 ?_
  refine g_aload_n (pc := 30) X 2 rfl dX8_copyFrom_30 ?_
  refine g_get (pc := 31) X inlX8 8 rfl rfl 1 (by decide) mw_4_2 rfl dX8_copyFrom_31 ?_
  refine g_iload_n (pc := 34) X 0 rfl dX8_copyFrom_34 ?_
  refine g_iald (pc := 35) X 10 rfl (vp_in_iff.mpr (by decide)) dX8_copyFrom_35 ?_
  refine g_iastF (pc := 36) X 2 rfl (vp_in_iff.mpr (by decide)) (ws' := fun f10 => [(d0, .inr (8, [.ref d_papers, .ref d_starts, .ref d_bases, .ref d_hungs, .int 0, .ref d_endPapers, .ref d_endLengths, .ref d_endPhases])), (d_papers, .inl (Z.2.1 0, 6, .inl f9)), (d_starts, .inl (Z.2.1 0, 6, .inl f10)), (d_bases, .inl (Z.2.1 0, 6, .inl f7)), (d_hungs, .inl (Z.2.1 0, 6, .inl f8)), (d_endPapers, .inl (Z.2.1 0, 10, .inl o5)), (d_endLengths, .inl (Z.2.1 0, 10, .inl o6)), (d_endPhases, .inl (Z.2.1 0, 10, .inl o7)), (n0, .inr (8, [.ref n_papers, .ref n_starts, .ref n_bases, .ref n_hungs, .int 0, .ref n_endPapers, .ref n_endLengths, .ref n_endPhases])), (n_papers, .inl (Z.2.1 0, 6, .inl p1)), (n_starts, .inl (Z.2.1 0, 6, .inl p2)), (n_bases, .inl (Z.2.1 0, 6, .inl p3)), (n_hungs, .inl (Z.2.1 0, 6, .inl p4)), (n_endPapers, .inl (Z.2.1 0, 10, .inl p5)), (n_endLengths, .inl (Z.2.1 0, 10, .inl p6)), (n_endPhases, .inl (Z.2.1 0, 10, .inl p7))]) (fun _ => rfl) dX8_copyFrom_36 (fun f10 => ?_)
  refine g_aload_n (pc := 37) X 1 rfl dX8_copyFrom_37 ?_
  refine g_get (pc := 38) X inlX8 0 rfl rfl 2 (by decide) mw_4_3 rfl dX8_copyFrom_38 ?_
  refine g_iload_n (pc := 41) X 0 rfl dX8_copyFrom_41 ?_
  refine g_aload_n (pc := 42) X 2 rfl dX8_copyFrom_42 ?_
  refine g_get (pc := 43) X inlX8 8 rfl rfl 2 (by decide) mw_4_3 rfl dX8_copyFrom_43 ?_
  refine g_iload_n (pc := 46) X 0 rfl dX8_copyFrom_46 ?_
  refine g_iald (pc := 47) X 11 rfl (vp_in_iff.mpr (by decide)) dX8_copyFrom_47 ?_
  refine g_iastF (pc := 48) X 3 rfl (vp_in_iff.mpr (by decide)) (ws' := fun f11 => [(d0, .inr (8, [.ref d_papers, .ref d_starts, .ref d_bases, .ref d_hungs, .int 0, .ref d_endPapers, .ref d_endLengths, .ref d_endPhases])), (d_papers, .inl (Z.2.1 0, 6, .inl f9)), (d_starts, .inl (Z.2.1 0, 6, .inl f10)), (d_bases, .inl (Z.2.1 0, 6, .inl f11)), (d_hungs, .inl (Z.2.1 0, 6, .inl f8)), (d_endPapers, .inl (Z.2.1 0, 10, .inl o5)), (d_endLengths, .inl (Z.2.1 0, 10, .inl o6)), (d_endPhases, .inl (Z.2.1 0, 10, .inl o7)), (n0, .inr (8, [.ref n_papers, .ref n_starts, .ref n_bases, .ref n_hungs, .int 0, .ref n_endPapers, .ref n_endLengths, .ref n_endPhases])), (n_papers, .inl (Z.2.1 0, 6, .inl p1)), (n_starts, .inl (Z.2.1 0, 6, .inl p2)), (n_bases, .inl (Z.2.1 0, 6, .inl p3)), (n_hungs, .inl (Z.2.1 0, 6, .inl p4)), (n_endPapers, .inl (Z.2.1 0, 10, .inl p5)), (n_endLengths, .inl (Z.2.1 0, 10, .inl p6)), (n_endPhases, .inl (Z.2.1 0, 10, .inl p7))]) (fun _ => rfl) dX8_copyFrom_48 (fun f11 => ?_)
  refine g_aload_n (pc := 49) X 1 rfl dX8_copyFrom_49 ?_
  refine g_get (pc := 50) X inlX8 0 rfl rfl 3 (by decide) mw_4_4 rfl dX8_copyFrom_50 ?_
  refine g_iload_n (pc := 53) X 0 rfl dX8_copyFrom_53 ?_
  refine g_aload_n (pc := 54) X 2 rfl dX8_copyFrom_54 ?_
  refine g_get (pc := 55) X inlX8 8 rfl rfl 3 (by decide) mw_4_4 rfl dX8_copyFrom_55 ?_
  refine g_iload_n (pc := 58) X 0 rfl dX8_copyFrom_58 ?_
  refine g_iald (pc := 59) X 12 rfl (vp_in_iff.mpr (by decide)) dX8_copyFrom_59 ?_
  refine g_iastF (pc := 60) X 4 rfl (vp_in_iff.mpr (by decide)) (ws' := fun f12 => [(d0, .inr (8, [.ref d_papers, .ref d_starts, .ref d_bases, .ref d_hungs, .int 0, .ref d_endPapers, .ref d_endLengths, .ref d_endPhases])), (d_papers, .inl (Z.2.1 0, 6, .inl f9)), (d_starts, .inl (Z.2.1 0, 6, .inl f10)), (d_bases, .inl (Z.2.1 0, 6, .inl f11)), (d_hungs, .inl (Z.2.1 0, 6, .inl f12)), (d_endPapers, .inl (Z.2.1 0, 10, .inl o5)), (d_endLengths, .inl (Z.2.1 0, 10, .inl o6)), (d_endPhases, .inl (Z.2.1 0, 10, .inl o7)), (n0, .inr (8, [.ref n_papers, .ref n_starts, .ref n_bases, .ref n_hungs, .int 0, .ref n_endPapers, .ref n_endLengths, .ref n_endPhases])), (n_papers, .inl (Z.2.1 0, 6, .inl p1)), (n_starts, .inl (Z.2.1 0, 6, .inl p2)), (n_bases, .inl (Z.2.1 0, 6, .inl p3)), (n_hungs, .inl (Z.2.1 0, 6, .inl p4)), (n_endPapers, .inl (Z.2.1 0, 10, .inl p5)), (n_endLengths, .inl (Z.2.1 0, 10, .inl p6)), (n_endPhases, .inl (Z.2.1 0, 10, .inl p7))]) (fun _ => rfl) dX8_copyFrom_60 (fun f12 => ?_)
  refine g_iinc (pc := 61) X 0 rfl (v := 3) (by decide) (by decide) (lv' := [(2, .int 3), (0, .ref d0), (1, .ref n0)]) rfl dX8_copyFrom_61 ?_
  refine g_goto (pc := 64) X 7 (by decide) dX8_copyFrom_64 ?_
  refine g_iload_n (pc := 7) X 0 rfl dX8_copyFrom_7 ?_
  refine g_bipush (pc := 8) X 6 (by decide) dX8_copyFrom_8 ?_
  refine g_icmp_ge (pc := 10) X 67 (by decide) dX8_copyFrom_10 (fun h => absurd h (by decide)) (fun b10 => ?_)
  refine g_aload_n (pc := 13) X 1 rfl dX8_copyFrom_13 ?_
  refine g_get (pc := 14) X inlX8 0 rfl rfl 0 (by decide) mw_4_1 rfl dX8_copyFrom_14 ?_
  refine g_iload_n (pc := 17) X 0 rfl dX8_copyFrom_17 ?_
  refine g_aload_n (pc := 18) X 2 rfl dX8_copyFrom_18 ?_
  refine g_get (pc := 19) X inlX8 8 rfl rfl 0 (by decide) mw_4_1 rfl dX8_copyFrom_19 ?_
  refine g_iload_n (pc := 22) X 0 rfl dX8_copyFrom_22 ?_
  refine g_iald (pc := 23) X 9 rfl (vp_in_iff.mpr (by decide)) dX8_copyFrom_23 ?_
  refine g_iastF (pc := 24) X 1 rfl (vp_in_iff.mpr (by decide)) (ws' := fun f13 => [(d0, .inr (8, [.ref d_papers, .ref d_starts, .ref d_bases, .ref d_hungs, .int 0, .ref d_endPapers, .ref d_endLengths, .ref d_endPhases])), (d_papers, .inl (Z.2.1 0, 6, .inl f13)), (d_starts, .inl (Z.2.1 0, 6, .inl f10)), (d_bases, .inl (Z.2.1 0, 6, .inl f11)), (d_hungs, .inl (Z.2.1 0, 6, .inl f12)), (d_endPapers, .inl (Z.2.1 0, 10, .inl o5)), (d_endLengths, .inl (Z.2.1 0, 10, .inl o6)), (d_endPhases, .inl (Z.2.1 0, 10, .inl o7)), (n0, .inr (8, [.ref n_papers, .ref n_starts, .ref n_bases, .ref n_hungs, .int 0, .ref n_endPapers, .ref n_endLengths, .ref n_endPhases])), (n_papers, .inl (Z.2.1 0, 6, .inl p1)), (n_starts, .inl (Z.2.1 0, 6, .inl p2)), (n_bases, .inl (Z.2.1 0, 6, .inl p3)), (n_hungs, .inl (Z.2.1 0, 6, .inl p4)), (n_endPapers, .inl (Z.2.1 0, 10, .inl p5)), (n_endLengths, .inl (Z.2.1 0, 10, .inl p6)), (n_endPhases, .inl (Z.2.1 0, 10, .inl p7))]) (fun _ => rfl) dX8_copyFrom_24 (fun f13 => ?_)
  refine g_aload_n (pc := 25) X 1 rfl dX8_copyFrom_25 ?_
  refine g_get (pc := 26) X inlX8 0 rfl rfl 1 (by decide) mw_4_2 rfl dX8_copyFrom_26 ?_
  refine g_iload_n (pc := 29) X 0 rfl dX8_copyFrom_29 ?_
  refine g_aload_n (pc := 30) X 2 rfl dX8_copyFrom_30 ?_
  refine g_get (pc := 31) X inlX8 8 rfl rfl 1 (by decide) mw_4_2 rfl dX8_copyFrom_31 ?_
  refine g_iload_n (pc := 34) X 0 rfl dX8_copyFrom_34 ?_
  refine g_iald (pc := 35) X 10 rfl (vp_in_iff.mpr (by decide)) dX8_copyFrom_35 ?_
  refine g_iastF (pc := 36) X 2 rfl (vp_in_iff.mpr (by decide)) (ws' := fun f14 => [(d0, .inr (8, [.ref d_papers, .ref d_starts, .ref d_bases, .ref d_hungs, .int 0, .ref d_endPapers, .ref d_endLengths, .ref d_endPhases])), (d_papers, .inl (Z.2.1 0, 6, .inl f13)), (d_starts, .inl (Z.2.1 0, 6, .inl f14)), (d_bases, .inl (Z.2.1 0, 6, .inl f11)), (d_hungs, .inl (Z.2.1 0, 6, .inl f12)), (d_endPapers, .inl (Z.2.1 0, 10, .inl o5)), (d_endLengths, .inl (Z.2.1 0, 10, .inl o6)), (d_endPhases, .inl (Z.2.1 0, 10, .inl o7)), (n0, .inr (8, [.ref n_papers, .ref n_starts, .ref n_bases, .ref n_hungs, .int 0, .ref n_endPapers, .ref n_endLengths, .ref n_endPhases])), (n_papers, .inl (Z.2.1 0, 6, .inl p1)), (n_starts, .inl (Z.2.1 0, 6, .inl p2)), (n_bases, .inl (Z.2.1 0, 6, .inl p3)), (n_hungs, .inl (Z.2.1 0, 6, .inl p4)), (n_endPapers, .inl (Z.2.1 0, 10, .inl p5)), (n_endLengths, .inl (Z.2.1 0, 10, .inl p6)), (n_endPhases, .inl (Z.2.1 0, 10, .inl p7))]) (fun _ => rfl) dX8_copyFrom_36 (fun f14 => ?_)
  refine g_aload_n (pc := 37) X 1 rfl dX8_copyFrom_37 ?_
  refine g_get (pc := 38) X inlX8 0 rfl rfl 2 (by decide) mw_4_3 rfl dX8_copyFrom_38 ?_
  refine g_iload_n (pc := 41) X 0 rfl dX8_copyFrom_41 ?_
  refine g_aload_n (pc := 42) X 2 rfl dX8_copyFrom_42 ?_
  refine g_get (pc := 43) X inlX8 8 rfl rfl 2 (by decide) mw_4_3 rfl dX8_copyFrom_43 ?_
  refine g_iload_n (pc := 46) X 0 rfl dX8_copyFrom_46 ?_
  refine g_iald (pc := 47) X 11 rfl (vp_in_iff.mpr (by decide)) dX8_copyFrom_47 ?_
  refine g_iastF (pc := 48) X 3 rfl (vp_in_iff.mpr (by decide)) (ws' := fun f15 => [(d0, .inr (8, [.ref d_papers, .ref d_starts, .ref d_bases, .ref d_hungs, .int 0, .ref d_endPapers, .ref d_endLengths, .ref d_endPhases])), (d_papers, .inl (Z.2.1 0, 6, .inl f13)), (d_starts, .inl (Z.2.1 0, 6, .inl f14)), (d_bases, .inl (Z.2.1 0, 6, .inl f15)), (d_hungs, .inl (Z.2.1 0, 6, .inl f12)), (d_endPapers, .inl (Z.2.1 0, 10, .inl o5)), (d_endLengths, .inl (Z.2.1 0, 10, .inl o6)), (d_endPhases, .inl (Z.2.1 0, 10, .inl o7)), (n0, .inr (8, [.ref n_papers, .ref n_starts, .ref n_bases, .ref n_hungs, .int 0, .ref n_endPapers, .ref n_endLengths, .ref n_endPhases])), (n_papers, .inl (Z.2.1 0, 6, .inl p1)), (n_starts, .inl (Z.2.1 0, 6, .inl p2)), (n_bases, .inl (Z.2.1 0, 6, .inl p3)), (n_hungs, .inl (Z.2.1 0, 6, .inl p4)), (n_endPapers, .inl (Z.2.1 0, 10, .inl p5)), (n_endLengths, .inl (Z.2.1 0, 10, .inl p6)), (n_endPhases, .inl (Z.2.1 0, 10, .inl p7))]) (fun _ => rfl) dX8_copyFrom_48 (fun f15 => ?_)
  refine g_aload_n (pc := 49) X 1 rfl dX8_copyFrom_49 ?_
  refine g_get (pc := 50) X inlX8 0 rfl rfl 3 (by decide) mw_4_4 rfl dX8_copyFrom_50 ?_
  refine g_iload_n (pc := 53) X 0 rfl dX8_copyFrom_53 ?_
  refine g_aload_n (pc := 54) X 2 rfl dX8_copyFrom_54 ?_
  refine g_get (pc := 55) X inlX8 8 rfl rfl 3 (by decide) mw_4_4 rfl dX8_copyFrom_55 ?_
  refine g_iload_n (pc := 58) X 0 rfl dX8_copyFrom_58 ?_
  refine g_iald (pc := 59) X 12 rfl (vp_in_iff.mpr (by decide)) dX8_copyFrom_59 ?_
  refine g_iastF (pc := 60) X 4 rfl (vp_in_iff.mpr (by decide)) (ws' := fun f16 => [(d0, .inr (8, [.ref d_papers, .ref d_starts, .ref d_bases, .ref d_hungs, .int 0, .ref d_endPapers, .ref d_endLengths, .ref d_endPhases])), (d_papers, .inl (Z.2.1 0, 6, .inl f13)), (d_starts, .inl (Z.2.1 0, 6, .inl f14)), (d_bases, .inl (Z.2.1 0, 6, .inl f15)), (d_hungs, .inl (Z.2.1 0, 6, .inl f16)), (d_endPapers, .inl (Z.2.1 0, 10, .inl o5)), (d_endLengths, .inl (Z.2.1 0, 10, .inl o6)), (d_endPhases, .inl (Z.2.1 0, 10, .inl o7)), (n0, .inr (8, [.ref n_papers, .ref n_starts, .ref n_bases, .ref n_hungs, .int 0, .ref n_endPapers, .ref n_endLengths, .ref n_endPhases])), (n_papers, .inl (Z.2.1 0, 6, .inl p1)), (n_starts, .inl (Z.2.1 0, 6, .inl p2)), (n_bases, .inl (Z.2.1 0, 6, .inl p3)), (n_hungs, .inl (Z.2.1 0, 6, .inl p4)), (n_endPapers, .inl (Z.2.1 0, 10, .inl p5)), (n_endLengths, .inl (Z.2.1 0, 10, .inl p6)), (n_endPhases, .inl (Z.2.1 0, 10, .inl p7))]) (fun _ => rfl) dX8_copyFrom_60 (fun f16 => ?_)
  refine g_iinc (pc := 61) X 0 rfl (v := 4) (by decide) (by decide) (lv' := [(2, .int 4), (0, .ref d0), (1, .ref n0)]) rfl dX8_copyFrom_61 ?_
  refine g_goto (pc := 64) X 7 (by decide) dX8_copyFrom_64 ?_
  refine g_iload_n (pc := 7) X 0 rfl dX8_copyFrom_7 ?_
  refine g_bipush (pc := 8) X 6 (by decide) dX8_copyFrom_8 ?_
  refine g_icmp_ge (pc := 10) X 67 (by decide) dX8_copyFrom_10 (fun h => absurd h (by decide)) (fun b10 => ?_)
  refine g_aload_n (pc := 13) X 1 rfl dX8_copyFrom_13 ?_
  refine g_get (pc := 14) X inlX8 0 rfl rfl 0 (by decide) mw_4_1 rfl dX8_copyFrom_14 ?_
  refine g_iload_n (pc := 17) X 0 rfl dX8_copyFrom_17 ?_
  refine g_aload_n (pc := 18) X 2 rfl dX8_copyFrom_18 ?_
  refine g_get (pc := 19) X inlX8 8 rfl rfl 0 (by decide) mw_4_1 rfl dX8_copyFrom_19 ?_
  refine g_iload_n (pc := 22) X 0 rfl dX8_copyFrom_22 ?_
  refine g_iald (pc := 23) X 9 rfl (vp_in_iff.mpr (by decide)) dX8_copyFrom_23 ?_
  refine g_iastF (pc := 24) X 1 rfl (vp_in_iff.mpr (by decide)) (ws' := fun f17 => [(d0, .inr (8, [.ref d_papers, .ref d_starts, .ref d_bases, .ref d_hungs, .int 0, .ref d_endPapers, .ref d_endLengths, .ref d_endPhases])), (d_papers, .inl (Z.2.1 0, 6, .inl f17)), (d_starts, .inl (Z.2.1 0, 6, .inl f14)), (d_bases, .inl (Z.2.1 0, 6, .inl f15)), (d_hungs, .inl (Z.2.1 0, 6, .inl f16)), (d_endPapers, .inl (Z.2.1 0, 10, .inl o5)), (d_endLengths, .inl (Z.2.1 0, 10, .inl o6)), (d_endPhases, .inl (Z.2.1 0, 10, .inl o7)), (n0, .inr (8, [.ref n_papers, .ref n_starts, .ref n_bases, .ref n_hungs, .int 0, .ref n_endPapers, .ref n_endLengths, .ref n_endPhases])), (n_papers, .inl (Z.2.1 0, 6, .inl p1)), (n_starts, .inl (Z.2.1 0, 6, .inl p2)), (n_bases, .inl (Z.2.1 0, 6, .inl p3)), (n_hungs, .inl (Z.2.1 0, 6, .inl p4)), (n_endPapers, .inl (Z.2.1 0, 10, .inl p5)), (n_endLengths, .inl (Z.2.1 0, 10, .inl p6)), (n_endPhases, .inl (Z.2.1 0, 10, .inl p7))]) (fun _ => rfl) dX8_copyFrom_24 (fun f17 => ?_)
  refine g_aload_n (pc := 25) X 1 rfl dX8_copyFrom_25 ?_
  refine g_get (pc := 26) X inlX8 0 rfl rfl 1 (by decide) mw_4_2 rfl dX8_copyFrom_26 ?_
  refine g_iload_n (pc := 29) X 0 rfl dX8_copyFrom_29 ?_
  refine g_aload_n (pc := 30) X 2 rfl dX8_copyFrom_30 ?_
  refine g_get (pc := 31) X inlX8 8 rfl rfl 1 (by decide) mw_4_2 rfl dX8_copyFrom_31 ?_
  refine g_iload_n (pc := 34) X 0 rfl dX8_copyFrom_34 ?_
  refine g_iald (pc := 35) X 10 rfl (vp_in_iff.mpr (by decide)) dX8_copyFrom_35 ?_
  refine g_iastF (pc := 36) X 2 rfl (vp_in_iff.mpr (by decide)) (ws' := fun f18 => [(d0, .inr (8, [.ref d_papers, .ref d_starts, .ref d_bases, .ref d_hungs, .int 0, .ref d_endPapers, .ref d_endLengths, .ref d_endPhases])), (d_papers, .inl (Z.2.1 0, 6, .inl f17)), (d_starts, .inl (Z.2.1 0, 6, .inl f18)), (d_bases, .inl (Z.2.1 0, 6, .inl f15)), (d_hungs, .inl (Z.2.1 0, 6, .inl f16)), (d_endPapers, .inl (Z.2.1 0, 10, .inl o5)), (d_endLengths, .inl (Z.2.1 0, 10, .inl o6)), (d_endPhases, .inl (Z.2.1 0, 10, .inl o7)), (n0, .inr (8, [.ref n_papers, .ref n_starts, .ref n_bases, .ref n_hungs, .int 0, .ref n_endPapers, .ref n_endLengths, .ref n_endPhases])), (n_papers, .inl (Z.2.1 0, 6, .inl p1)), (n_starts, .inl (Z.2.1 0, 6, .inl p2)), (n_bases, .inl (Z.2.1 0, 6, .inl p3)), (n_hungs, .inl (Z.2.1 0, 6, .inl p4)), (n_endPapers, .inl (Z.2.1 0, 10, .inl p5)), (n_endLengths, .inl (Z.2.1 0, 10, .inl p6)), (n_endPhases, .inl (Z.2.1 0, 10, .inl p7))]) (fun _ => rfl) dX8_copyFrom_36 (fun f18 => ?_)
  refine g_aload_n (pc := 37) X 1 rfl dX8_copyFrom_37 ?_
  refine g_get (pc := 38) X inlX8 0 rfl rfl 2 (by decide) mw_4_3 rfl dX8_copyFrom_38 ?_
  refine g_iload_n (pc := 41) X 0 rfl dX8_copyFrom_41 ?_
  refine g_aload_n (pc := 42) X 2 rfl dX8_copyFrom_42 ?_
  refine g_get (pc := 43) X inlX8 8 rfl rfl 2 (by decide) mw_4_3 rfl dX8_copyFrom_43 ?_
  refine g_iload_n (pc := 46) X 0 rfl dX8_copyFrom_46 ?_
  refine g_iald (pc := 47) X 11 rfl (vp_in_iff.mpr (by decide)) dX8_copyFrom_47 ?_
  refine g_iastF (pc := 48) X 3 rfl (vp_in_iff.mpr (by decide)) (ws' := fun f19 => [(d0, .inr (8, [.ref d_papers, .ref d_starts, .ref d_bases, .ref d_hungs, .int 0, .ref d_endPapers, .ref d_endLengths, .ref d_endPhases])), (d_papers, .inl (Z.2.1 0, 6, .inl f17)), (d_starts, .inl (Z.2.1 0, 6, .inl f18)), (d_bases, .inl (Z.2.1 0, 6, .inl f19)), (d_hungs, .inl (Z.2.1 0, 6, .inl f16)), (d_endPapers, .inl (Z.2.1 0, 10, .inl o5)), (d_endLengths, .inl (Z.2.1 0, 10, .inl o6)), (d_endPhases, .inl (Z.2.1 0, 10, .inl o7)), (n0, .inr (8, [.ref n_papers, .ref n_starts, .ref n_bases, .ref n_hungs, .int 0, .ref n_endPapers, .ref n_endLengths, .ref n_endPhases])), (n_papers, .inl (Z.2.1 0, 6, .inl p1)), (n_starts, .inl (Z.2.1 0, 6, .inl p2)), (n_bases, .inl (Z.2.1 0, 6, .inl p3)), (n_hungs, .inl (Z.2.1 0, 6, .inl p4)), (n_endPapers, .inl (Z.2.1 0, 10, .inl p5)), (n_endLengths, .inl (Z.2.1 0, 10, .inl p6)), (n_endPhases, .inl (Z.2.1 0, 10, .inl p7))]) (fun _ => rfl) dX8_copyFrom_48 (fun f19 => ?_)
  refine g_aload_n (pc := 49) X 1 rfl dX8_copyFrom_49 ?_
  refine g_get (pc := 50) X inlX8 0 rfl rfl 3 (by decide) mw_4_4 rfl dX8_copyFrom_50 ?_
  refine g_iload_n (pc := 53) X 0 rfl dX8_copyFrom_53 ?_
  refine g_aload_n (pc := 54) X 2 rfl dX8_copyFrom_54 ?_
  refine g_get (pc := 55) X inlX8 8 rfl rfl 3 (by decide) mw_4_4 rfl dX8_copyFrom_55 ?_
  refine g_iload_n (pc := 58) X 0 rfl dX8_copyFrom_58 ?_
  refine g_iald (pc := 59) X 12 rfl (vp_in_iff.mpr (by decide)) dX8_copyFrom_59 ?_
  refine g_iastF (pc := 60) X 4 rfl (vp_in_iff.mpr (by decide)) (ws' := fun f20 => [(d0, .inr (8, [.ref d_papers, .ref d_starts, .ref d_bases, .ref d_hungs, .int 0, .ref d_endPapers, .ref d_endLengths, .ref d_endPhases])), (d_papers, .inl (Z.2.1 0, 6, .inl f17)), (d_starts, .inl (Z.2.1 0, 6, .inl f18)), (d_bases, .inl (Z.2.1 0, 6, .inl f19)), (d_hungs, .inl (Z.2.1 0, 6, .inl f20)), (d_endPapers, .inl (Z.2.1 0, 10, .inl o5)), (d_endLengths, .inl (Z.2.1 0, 10, .inl o6)), (d_endPhases, .inl (Z.2.1 0, 10, .inl o7)), (n0, .inr (8, [.ref n_papers, .ref n_starts, .ref n_bases, .ref n_hungs, .int 0, .ref n_endPapers, .ref n_endLengths, .ref n_endPhases])), (n_papers, .inl (Z.2.1 0, 6, .inl p1)), (n_starts, .inl (Z.2.1 0, 6, .inl p2)), (n_bases, .inl (Z.2.1 0, 6, .inl p3)), (n_hungs, .inl (Z.2.1 0, 6, .inl p4)), (n_endPapers, .inl (Z.2.1 0, 10, .inl p5)), (n_endLengths, .inl (Z.2.1 0, 10, .inl p6)), (n_endPhases, .inl (Z.2.1 0, 10, .inl p7))]) (fun _ => rfl) dX8_copyFrom_60 (fun f20 => ?_)
  refine g_iinc (pc := 61) X 0 rfl (v := 5) (by decide) (by decide) (lv' := [(2, .int 5), (0, .ref d0), (1, .ref n0)]) rfl dX8_copyFrom_61 ?_
  refine g_goto (pc := 64) X 7 (by decide) dX8_copyFrom_64 ?_
  refine g_iload_n (pc := 7) X 0 rfl dX8_copyFrom_7 ?_
  refine g_bipush (pc := 8) X 6 (by decide) dX8_copyFrom_8 ?_
  refine g_icmp_ge (pc := 10) X 67 (by decide) dX8_copyFrom_10 (fun h => absurd h (by decide)) (fun b10 => ?_)
  refine g_aload_n (pc := 13) X 1 rfl dX8_copyFrom_13 ?_
  refine g_get (pc := 14) X inlX8 0 rfl rfl 0 (by decide) mw_4_1 rfl dX8_copyFrom_14 ?_
  refine g_iload_n (pc := 17) X 0 rfl dX8_copyFrom_17 ?_
  refine g_aload_n (pc := 18) X 2 rfl dX8_copyFrom_18 ?_
  refine g_get (pc := 19) X inlX8 8 rfl rfl 0 (by decide) mw_4_1 rfl dX8_copyFrom_19 ?_
  refine g_iload_n (pc := 22) X 0 rfl dX8_copyFrom_22 ?_
  refine g_iald (pc := 23) X 9 rfl (vp_in_iff.mpr (by decide)) dX8_copyFrom_23 ?_
  refine g_iastF (pc := 24) X 1 rfl (vp_in_iff.mpr (by decide)) (ws' := fun f21 => [(d0, .inr (8, [.ref d_papers, .ref d_starts, .ref d_bases, .ref d_hungs, .int 0, .ref d_endPapers, .ref d_endLengths, .ref d_endPhases])), (d_papers, .inl (Z.2.1 0, 6, .inl f21)), (d_starts, .inl (Z.2.1 0, 6, .inl f18)), (d_bases, .inl (Z.2.1 0, 6, .inl f19)), (d_hungs, .inl (Z.2.1 0, 6, .inl f20)), (d_endPapers, .inl (Z.2.1 0, 10, .inl o5)), (d_endLengths, .inl (Z.2.1 0, 10, .inl o6)), (d_endPhases, .inl (Z.2.1 0, 10, .inl o7)), (n0, .inr (8, [.ref n_papers, .ref n_starts, .ref n_bases, .ref n_hungs, .int 0, .ref n_endPapers, .ref n_endLengths, .ref n_endPhases])), (n_papers, .inl (Z.2.1 0, 6, .inl p1)), (n_starts, .inl (Z.2.1 0, 6, .inl p2)), (n_bases, .inl (Z.2.1 0, 6, .inl p3)), (n_hungs, .inl (Z.2.1 0, 6, .inl p4)), (n_endPapers, .inl (Z.2.1 0, 10, .inl p5)), (n_endLengths, .inl (Z.2.1 0, 10, .inl p6)), (n_endPhases, .inl (Z.2.1 0, 10, .inl p7))]) (fun _ => rfl) dX8_copyFrom_24 (fun f21 => ?_)
  refine g_aload_n (pc := 25) X 1 rfl dX8_copyFrom_25 ?_
  refine g_get (pc := 26) X inlX8 0 rfl rfl 1 (by decide) mw_4_2 rfl dX8_copyFrom_26 ?_
  refine g_iload_n (pc := 29) X 0 rfl dX8_copyFrom_29 ?_
  refine g_aload_n (pc := 30) X 2 rfl dX8_copyFrom_30 ?_
  refine g_get (pc := 31) X inlX8 8 rfl rfl 1 (by decide) mw_4_2 rfl dX8_copyFrom_31 ?_
  refine g_iload_n (pc := 34) X 0 rfl dX8_copyFrom_34 ?_
  refine g_iald (pc := 35) X 10 rfl (vp_in_iff.mpr (by decide)) dX8_copyFrom_35 ?_
  refine g_iastF (pc := 36) X 2 rfl (vp_in_iff.mpr (by decide)) (ws' := fun f22 => [(d0, .inr (8, [.ref d_papers, .ref d_starts, .ref d_bases, .ref d_hungs, .int 0, .ref d_endPapers, .ref d_endLengths, .ref d_endPhases])), (d_papers, .inl (Z.2.1 0, 6, .inl f21)), (d_starts, .inl (Z.2.1 0, 6, .inl f22)), (d_bases, .inl (Z.2.1 0, 6, .inl f19)), (d_hungs, .inl (Z.2.1 0, 6, .inl f20)), (d_endPapers, .inl (Z.2.1 0, 10, .inl o5)), (d_endLengths, .inl (Z.2.1 0, 10, .inl o6)), (d_endPhases, .inl (Z.2.1 0, 10, .inl o7)), (n0, .inr (8, [.ref n_papers, .ref n_starts, .ref n_bases, .ref n_hungs, .int 0, .ref n_endPapers, .ref n_endLengths, .ref n_endPhases])), (n_papers, .inl (Z.2.1 0, 6, .inl p1)), (n_starts, .inl (Z.2.1 0, 6, .inl p2)), (n_bases, .inl (Z.2.1 0, 6, .inl p3)), (n_hungs, .inl (Z.2.1 0, 6, .inl p4)), (n_endPapers, .inl (Z.2.1 0, 10, .inl p5)), (n_endLengths, .inl (Z.2.1 0, 10, .inl p6)), (n_endPhases, .inl (Z.2.1 0, 10, .inl p7))]) (fun _ => rfl) dX8_copyFrom_36 (fun f22 => ?_)
  refine g_aload_n (pc := 37) X 1 rfl dX8_copyFrom_37 ?_
  refine g_get (pc := 38) X inlX8 0 rfl rfl 2 (by decide) mw_4_3 rfl dX8_copyFrom_38 ?_
  refine g_iload_n (pc := 41) X 0 rfl dX8_copyFrom_41 ?_
  refine g_aload_n (pc := 42) X 2 rfl dX8_copyFrom_42 ?_
  refine g_get (pc := 43) X inlX8 8 rfl rfl 2 (by decide) mw_4_3 rfl dX8_copyFrom_43 ?_
  refine g_iload_n (pc := 46) X 0 rfl dX8_copyFrom_46 ?_
  refine g_iald (pc := 47) X 11 rfl (vp_in_iff.mpr (by decide)) dX8_copyFrom_47 ?_
  refine g_iastF (pc := 48) X 3 rfl (vp_in_iff.mpr (by decide)) (ws' := fun f23 => [(d0, .inr (8, [.ref d_papers, .ref d_starts, .ref d_bases, .ref d_hungs, .int 0, .ref d_endPapers, .ref d_endLengths, .ref d_endPhases])), (d_papers, .inl (Z.2.1 0, 6, .inl f21)), (d_starts, .inl (Z.2.1 0, 6, .inl f22)), (d_bases, .inl (Z.2.1 0, 6, .inl f23)), (d_hungs, .inl (Z.2.1 0, 6, .inl f20)), (d_endPapers, .inl (Z.2.1 0, 10, .inl o5)), (d_endLengths, .inl (Z.2.1 0, 10, .inl o6)), (d_endPhases, .inl (Z.2.1 0, 10, .inl o7)), (n0, .inr (8, [.ref n_papers, .ref n_starts, .ref n_bases, .ref n_hungs, .int 0, .ref n_endPapers, .ref n_endLengths, .ref n_endPhases])), (n_papers, .inl (Z.2.1 0, 6, .inl p1)), (n_starts, .inl (Z.2.1 0, 6, .inl p2)), (n_bases, .inl (Z.2.1 0, 6, .inl p3)), (n_hungs, .inl (Z.2.1 0, 6, .inl p4)), (n_endPapers, .inl (Z.2.1 0, 10, .inl p5)), (n_endLengths, .inl (Z.2.1 0, 10, .inl p6)), (n_endPhases, .inl (Z.2.1 0, 10, .inl p7))]) (fun _ => rfl) dX8_copyFrom_48 (fun f23 => ?_)
  refine g_aload_n (pc := 49) X 1 rfl dX8_copyFrom_49 ?_
  refine g_get (pc := 50) X inlX8 0 rfl rfl 3 (by decide) mw_4_4 rfl dX8_copyFrom_50 ?_
  refine g_iload_n (pc := 53) X 0 rfl dX8_copyFrom_53 ?_
  refine g_aload_n (pc := 54) X 2 rfl dX8_copyFrom_54 ?_
  refine g_get (pc := 55) X inlX8 8 rfl rfl 3 (by decide) mw_4_4 rfl dX8_copyFrom_55 ?_
  refine g_iload_n (pc := 58) X 0 rfl dX8_copyFrom_58 ?_
  refine g_iald (pc := 59) X 12 rfl (vp_in_iff.mpr (by decide)) dX8_copyFrom_59 ?_
  refine g_iastF (pc := 60) X 4 rfl (vp_in_iff.mpr (by decide)) (ws' := fun f24 => [(d0, .inr (8, [.ref d_papers, .ref d_starts, .ref d_bases, .ref d_hungs, .int 0, .ref d_endPapers, .ref d_endLengths, .ref d_endPhases])), (d_papers, .inl (Z.2.1 0, 6, .inl f21)), (d_starts, .inl (Z.2.1 0, 6, .inl f22)), (d_bases, .inl (Z.2.1 0, 6, .inl f23)), (d_hungs, .inl (Z.2.1 0, 6, .inl f24)), (d_endPapers, .inl (Z.2.1 0, 10, .inl o5)), (d_endLengths, .inl (Z.2.1 0, 10, .inl o6)), (d_endPhases, .inl (Z.2.1 0, 10, .inl o7)), (n0, .inr (8, [.ref n_papers, .ref n_starts, .ref n_bases, .ref n_hungs, .int 0, .ref n_endPapers, .ref n_endLengths, .ref n_endPhases])), (n_papers, .inl (Z.2.1 0, 6, .inl p1)), (n_starts, .inl (Z.2.1 0, 6, .inl p2)), (n_bases, .inl (Z.2.1 0, 6, .inl p3)), (n_hungs, .inl (Z.2.1 0, 6, .inl p4)), (n_endPapers, .inl (Z.2.1 0, 10, .inl p5)), (n_endLengths, .inl (Z.2.1 0, 10, .inl p6)), (n_endPhases, .inl (Z.2.1 0, 10, .inl p7))]) (fun _ => rfl) dX8_copyFrom_60 (fun f24 => ?_)
  refine g_iinc (pc := 61) X 0 rfl (v := 6) (by decide) (by decide) (lv' := [(2, .int 6), (0, .ref d0), (1, .ref n0)]) rfl dX8_copyFrom_61 ?_
  refine g_goto (pc := 64) X 7 (by decide) dX8_copyFrom_64 ?_
  refine g_iload_n (pc := 7) X 0 rfl dX8_copyFrom_7 ?_
  refine g_bipush (pc := 8) X 6 (by decide) dX8_copyFrom_8 ?_
  refine g_icmp_ge (pc := 10) X 67 (by decide) dX8_copyFrom_10 (fun b10 => ?_) (fun h => absurd (by decide) h)
  refine g_aload_n (pc := 67) X 1 rfl dX8_copyFrom_67 ?_
  refine g_aload_n (pc := 68) X 2 rfl dX8_copyFrom_68 ?_
  refine g_get (pc := 69) X inlX8 8 rfl rfl 4 (by decide) mw_51_10 rfl dX8_copyFrom_69 ?_
  refine g_put (pc := 72) X inlX8 tyX8_ok nmX8 0 rfl rfl 4 (by decide) mw_51_10 rfl rfl rfl (Nat.le_of_ble_eq_true rfl) (ws' := [(d0, .inr (8, [.ref d_papers, .ref d_starts, .ref d_bases, .ref d_hungs, .int 0, .ref d_endPapers, .ref d_endLengths, .ref d_endPhases])), (d_papers, .inl (Z.2.1 0, 6, .inl f21)), (d_starts, .inl (Z.2.1 0, 6, .inl f22)), (d_bases, .inl (Z.2.1 0, 6, .inl f23)), (d_hungs, .inl (Z.2.1 0, 6, .inl f24)), (d_endPapers, .inl (Z.2.1 0, 10, .inl o5)), (d_endLengths, .inl (Z.2.1 0, 10, .inl o6)), (d_endPhases, .inl (Z.2.1 0, 10, .inl o7)), (n0, .inr (8, [.ref n_papers, .ref n_starts, .ref n_bases, .ref n_hungs, .int 0, .ref n_endPapers, .ref n_endLengths, .ref n_endPhases])), (n_papers, .inl (Z.2.1 0, 6, .inl p1)), (n_starts, .inl (Z.2.1 0, 6, .inl p2)), (n_bases, .inl (Z.2.1 0, 6, .inl p3)), (n_hungs, .inl (Z.2.1 0, 6, .inl p4)), (n_endPapers, .inl (Z.2.1 0, 10, .inl p5)), (n_endLengths, .inl (Z.2.1 0, 10, .inl p6)), (n_endPhases, .inl (Z.2.1 0, 10, .inl p7))]) rfl dX8_copyFrom_72 ?_
  refine g_iconst (pc := 75) X 0 (by decide) dX8_copyFrom_75 ?_
  refine g_istore_n (pc := 76) X (i := 2) rfl (by decide) (lv' := [(2, .int 0), (0, .ref d0), (1, .ref n0)]) rfl dX8_copyFrom_76 ?_
  refine g_iload_n (pc := 77) X 0 rfl dX8_copyFrom_77 ?_
  refine g_bipush (pc := 78) X 10 (by decide) dX8_copyFrom_78 ?_
  refine g_icmp_ge (pc := 80) X 125 (by decide) dX8_copyFrom_80 (fun h => absurd h (by decide)) (fun b80 => ?_)
  refine g_aload_n (pc := 83) X 1 rfl dX8_copyFrom_83 ?_
  refine g_get (pc := 84) X inlX8 0 rfl rfl 5 (by decide) mw_4_5 rfl dX8_copyFrom_84 ?_
  refine g_iload_n (pc := 87) X 0 rfl dX8_copyFrom_87 ?_
  refine g_aload_n (pc := 88) X 2 rfl dX8_copyFrom_88 ?_
  refine g_get (pc := 89) X inlX8 8 rfl rfl 5 (by decide) mw_4_5 rfl dX8_copyFrom_89 ?_
  refine g_iload_n (pc := 92) X 0 rfl dX8_copyFrom_92 ?_
  refine g_iald (pc := 93) X 13 rfl (vp_in_iff.mpr (by decide)) dX8_copyFrom_93 ?_
  refine g_iastF (pc := 94) X 5 rfl (vp_in_iff.mpr (by decide)) (ws' := fun f25 => [(d0, .inr (8, [.ref d_papers, .ref d_starts, .ref d_bases, .ref d_hungs, .int 0, .ref d_endPapers, .ref d_endLengths, .ref d_endPhases])), (d_papers, .inl (Z.2.1 0, 6, .inl f21)), (d_starts, .inl (Z.2.1 0, 6, .inl f22)), (d_bases, .inl (Z.2.1 0, 6, .inl f23)), (d_hungs, .inl (Z.2.1 0, 6, .inl f24)), (d_endPapers, .inl (Z.2.1 0, 10, .inl f25)), (d_endLengths, .inl (Z.2.1 0, 10, .inl o6)), (d_endPhases, .inl (Z.2.1 0, 10, .inl o7)), (n0, .inr (8, [.ref n_papers, .ref n_starts, .ref n_bases, .ref n_hungs, .int 0, .ref n_endPapers, .ref n_endLengths, .ref n_endPhases])), (n_papers, .inl (Z.2.1 0, 6, .inl p1)), (n_starts, .inl (Z.2.1 0, 6, .inl p2)), (n_bases, .inl (Z.2.1 0, 6, .inl p3)), (n_hungs, .inl (Z.2.1 0, 6, .inl p4)), (n_endPapers, .inl (Z.2.1 0, 10, .inl p5)), (n_endLengths, .inl (Z.2.1 0, 10, .inl p6)), (n_endPhases, .inl (Z.2.1 0, 10, .inl p7))]) (fun _ => rfl) dX8_copyFrom_94 (fun f25 => ?_)
  refine g_aload_n (pc := 95) X 1 rfl dX8_copyFrom_95 ?_
  refine g_get (pc := 96) X inlX8 0 rfl rfl 6 (by decide) mw_4_6 rfl dX8_copyFrom_96 ?_
  refine g_iload_n (pc := 99) X 0 rfl dX8_copyFrom_99 ?_
  refine g_aload_n (pc := 100) X 2 rfl dX8_copyFrom_100 ?_
  refine g_get (pc := 101) X inlX8 8 rfl rfl 6 (by decide) mw_4_6 rfl dX8_copyFrom_101 ?_
  refine g_iload_n (pc := 104) X 0 rfl dX8_copyFrom_104 ?_
  refine g_iald (pc := 105) X 14 rfl (vp_in_iff.mpr (by decide)) dX8_copyFrom_105 ?_
  refine g_iastF (pc := 106) X 6 rfl (vp_in_iff.mpr (by decide)) (ws' := fun f26 => [(d0, .inr (8, [.ref d_papers, .ref d_starts, .ref d_bases, .ref d_hungs, .int 0, .ref d_endPapers, .ref d_endLengths, .ref d_endPhases])), (d_papers, .inl (Z.2.1 0, 6, .inl f21)), (d_starts, .inl (Z.2.1 0, 6, .inl f22)), (d_bases, .inl (Z.2.1 0, 6, .inl f23)), (d_hungs, .inl (Z.2.1 0, 6, .inl f24)), (d_endPapers, .inl (Z.2.1 0, 10, .inl f25)), (d_endLengths, .inl (Z.2.1 0, 10, .inl f26)), (d_endPhases, .inl (Z.2.1 0, 10, .inl o7)), (n0, .inr (8, [.ref n_papers, .ref n_starts, .ref n_bases, .ref n_hungs, .int 0, .ref n_endPapers, .ref n_endLengths, .ref n_endPhases])), (n_papers, .inl (Z.2.1 0, 6, .inl p1)), (n_starts, .inl (Z.2.1 0, 6, .inl p2)), (n_bases, .inl (Z.2.1 0, 6, .inl p3)), (n_hungs, .inl (Z.2.1 0, 6, .inl p4)), (n_endPapers, .inl (Z.2.1 0, 10, .inl p5)), (n_endLengths, .inl (Z.2.1 0, 10, .inl p6)), (n_endPhases, .inl (Z.2.1 0, 10, .inl p7))]) (fun _ => rfl) dX8_copyFrom_106 (fun f26 => ?_)
  refine g_aload_n (pc := 107) X 1 rfl dX8_copyFrom_107 ?_
  refine g_get (pc := 108) X inlX8 0 rfl rfl 7 (by decide) mw_4_7 rfl dX8_copyFrom_108 ?_
  refine g_iload_n (pc := 111) X 0 rfl dX8_copyFrom_111 ?_
  refine g_aload_n (pc := 112) X 2 rfl dX8_copyFrom_112 ?_
  refine g_get (pc := 113) X inlX8 8 rfl rfl 7 (by decide) mw_4_7 rfl dX8_copyFrom_113 ?_
  refine g_iload_n (pc := 116) X 0 rfl dX8_copyFrom_116 ?_
  refine g_iald (pc := 117) X 15 rfl (vp_in_iff.mpr (by decide)) dX8_copyFrom_117 ?_
  refine g_iastF (pc := 118) X 7 rfl (vp_in_iff.mpr (by decide)) (ws' := fun f27 => [(d0, .inr (8, [.ref d_papers, .ref d_starts, .ref d_bases, .ref d_hungs, .int 0, .ref d_endPapers, .ref d_endLengths, .ref d_endPhases])), (d_papers, .inl (Z.2.1 0, 6, .inl f21)), (d_starts, .inl (Z.2.1 0, 6, .inl f22)), (d_bases, .inl (Z.2.1 0, 6, .inl f23)), (d_hungs, .inl (Z.2.1 0, 6, .inl f24)), (d_endPapers, .inl (Z.2.1 0, 10, .inl f25)), (d_endLengths, .inl (Z.2.1 0, 10, .inl f26)), (d_endPhases, .inl (Z.2.1 0, 10, .inl f27)), (n0, .inr (8, [.ref n_papers, .ref n_starts, .ref n_bases, .ref n_hungs, .int 0, .ref n_endPapers, .ref n_endLengths, .ref n_endPhases])), (n_papers, .inl (Z.2.1 0, 6, .inl p1)), (n_starts, .inl (Z.2.1 0, 6, .inl p2)), (n_bases, .inl (Z.2.1 0, 6, .inl p3)), (n_hungs, .inl (Z.2.1 0, 6, .inl p4)), (n_endPapers, .inl (Z.2.1 0, 10, .inl p5)), (n_endLengths, .inl (Z.2.1 0, 10, .inl p6)), (n_endPhases, .inl (Z.2.1 0, 10, .inl p7))]) (fun _ => rfl) dX8_copyFrom_118 (fun f27 => ?_)
  refine g_iinc (pc := 119) X 0 rfl (v := 1) (by decide) (by decide) (lv' := [(2, .int 1), (0, .ref d0), (1, .ref n0)]) rfl dX8_copyFrom_119 ?_
  refine g_goto (pc := 122) X 77 (by decide) dX8_copyFrom_122 ?_
  refine g_iload_n (pc := 77) X 0 rfl dX8_copyFrom_77 ?_
  refine g_bipush (pc := 78) X 10 (by decide) dX8_copyFrom_78 ?_
  refine g_icmp_ge (pc := 80) X 125 (by decide) dX8_copyFrom_80 (fun h => absurd h (by decide)) (fun b80 => ?_)
  refine g_aload_n (pc := 83) X 1 rfl dX8_copyFrom_83 ?_
  refine g_get (pc := 84) X inlX8 0 rfl rfl 5 (by decide) mw_4_5 rfl dX8_copyFrom_84 ?_
  refine g_iload_n (pc := 87) X 0 rfl dX8_copyFrom_87 ?_
  refine g_aload_n (pc := 88) X 2 rfl dX8_copyFrom_88 ?_
  refine g_get (pc := 89) X inlX8 8 rfl rfl 5 (by decide) mw_4_5 rfl dX8_copyFrom_89 ?_
  refine g_iload_n (pc := 92) X 0 rfl dX8_copyFrom_92 ?_
  refine g_iald (pc := 93) X 13 rfl (vp_in_iff.mpr (by decide)) dX8_copyFrom_93 ?_
  refine g_iastF (pc := 94) X 5 rfl (vp_in_iff.mpr (by decide)) (ws' := fun f28 => [(d0, .inr (8, [.ref d_papers, .ref d_starts, .ref d_bases, .ref d_hungs, .int 0, .ref d_endPapers, .ref d_endLengths, .ref d_endPhases])), (d_papers, .inl (Z.2.1 0, 6, .inl f21)), (d_starts, .inl (Z.2.1 0, 6, .inl f22)), (d_bases, .inl (Z.2.1 0, 6, .inl f23)), (d_hungs, .inl (Z.2.1 0, 6, .inl f24)), (d_endPapers, .inl (Z.2.1 0, 10, .inl f28)), (d_endLengths, .inl (Z.2.1 0, 10, .inl f26)), (d_endPhases, .inl (Z.2.1 0, 10, .inl f27)), (n0, .inr (8, [.ref n_papers, .ref n_starts, .ref n_bases, .ref n_hungs, .int 0, .ref n_endPapers, .ref n_endLengths, .ref n_endPhases])), (n_papers, .inl (Z.2.1 0, 6, .inl p1)), (n_starts, .inl (Z.2.1 0, 6, .inl p2)), (n_bases, .inl (Z.2.1 0, 6, .inl p3)), (n_hungs, .inl (Z.2.1 0, 6, .inl p4)), (n_endPapers, .inl (Z.2.1 0, 10, .inl p5)), (n_endLengths, .inl (Z.2.1 0, 10, .inl p6)), (n_endPhases, .inl (Z.2.1 0, 10, .inl p7))]) (fun _ => rfl) dX8_copyFrom_94 (fun f28 => ?_)
  refine g_aload_n (pc := 95) X 1 rfl dX8_copyFrom_95 ?_
  refine g_get (pc := 96) X inlX8 0 rfl rfl 6 (by decide) mw_4_6 rfl dX8_copyFrom_96 ?_
  refine g_iload_n (pc := 99) X 0 rfl dX8_copyFrom_99 ?_
  refine g_aload_n (pc := 100) X 2 rfl dX8_copyFrom_100 ?_
  refine g_get (pc := 101) X inlX8 8 rfl rfl 6 (by decide) mw_4_6 rfl dX8_copyFrom_101 ?_
  refine g_iload_n (pc := 104) X 0 rfl dX8_copyFrom_104 ?_
  refine g_iald (pc := 105) X 14 rfl (vp_in_iff.mpr (by decide)) dX8_copyFrom_105 ?_
  refine g_iastF (pc := 106) X 6 rfl (vp_in_iff.mpr (by decide)) (ws' := fun f29 => [(d0, .inr (8, [.ref d_papers, .ref d_starts, .ref d_bases, .ref d_hungs, .int 0, .ref d_endPapers, .ref d_endLengths, .ref d_endPhases])), (d_papers, .inl (Z.2.1 0, 6, .inl f21)), (d_starts, .inl (Z.2.1 0, 6, .inl f22)), (d_bases, .inl (Z.2.1 0, 6, .inl f23)), (d_hungs, .inl (Z.2.1 0, 6, .inl f24)), (d_endPapers, .inl (Z.2.1 0, 10, .inl f28)), (d_endLengths, .inl (Z.2.1 0, 10, .inl f29)), (d_endPhases, .inl (Z.2.1 0, 10, .inl f27)), (n0, .inr (8, [.ref n_papers, .ref n_starts, .ref n_bases, .ref n_hungs, .int 0, .ref n_endPapers, .ref n_endLengths, .ref n_endPhases])), (n_papers, .inl (Z.2.1 0, 6, .inl p1)), (n_starts, .inl (Z.2.1 0, 6, .inl p2)), (n_bases, .inl (Z.2.1 0, 6, .inl p3)), (n_hungs, .inl (Z.2.1 0, 6, .inl p4)), (n_endPapers, .inl (Z.2.1 0, 10, .inl p5)), (n_endLengths, .inl (Z.2.1 0, 10, .inl p6)), (n_endPhases, .inl (Z.2.1 0, 10, .inl p7))]) (fun _ => rfl) dX8_copyFrom_106 (fun f29 => ?_)
  refine g_aload_n (pc := 107) X 1 rfl dX8_copyFrom_107 ?_
  refine g_get (pc := 108) X inlX8 0 rfl rfl 7 (by decide) mw_4_7 rfl dX8_copyFrom_108 ?_
  refine g_iload_n (pc := 111) X 0 rfl dX8_copyFrom_111 ?_
  refine g_aload_n (pc := 112) X 2 rfl dX8_copyFrom_112 ?_
  refine g_get (pc := 113) X inlX8 8 rfl rfl 7 (by decide) mw_4_7 rfl dX8_copyFrom_113 ?_
  refine g_iload_n (pc := 116) X 0 rfl dX8_copyFrom_116 ?_
  refine g_iald (pc := 117) X 15 rfl (vp_in_iff.mpr (by decide)) dX8_copyFrom_117 ?_
  refine g_iastF (pc := 118) X 7 rfl (vp_in_iff.mpr (by decide)) (ws' := fun f30 => [(d0, .inr (8, [.ref d_papers, .ref d_starts, .ref d_bases, .ref d_hungs, .int 0, .ref d_endPapers, .ref d_endLengths, .ref d_endPhases])), (d_papers, .inl (Z.2.1 0, 6, .inl f21)), (d_starts, .inl (Z.2.1 0, 6, .inl f22)), (d_bases, .inl (Z.2.1 0, 6, .inl f23)), (d_hungs, .inl (Z.2.1 0, 6, .inl f24)), (d_endPapers, .inl (Z.2.1 0, 10, .inl f28)), (d_endLengths, .inl (Z.2.1 0, 10, .inl f29)), (d_endPhases, .inl (Z.2.1 0, 10, .inl f30)), (n0, .inr (8, [.ref n_papers, .ref n_starts, .ref n_bases, .ref n_hungs, .int 0, .ref n_endPapers, .ref n_endLengths, .ref n_endPhases])), (n_papers, .inl (Z.2.1 0, 6, .inl p1)), (n_starts, .inl (Z.2.1 0, 6, .inl p2)), (n_bases, .inl (Z.2.1 0, 6, .inl p3)), (n_hungs, .inl (Z.2.1 0, 6, .inl p4)), (n_endPapers, .inl (Z.2.1 0, 10, .inl p5)), (n_endLengths, .inl (Z.2.1 0, 10, .inl p6)), (n_endPhases, .inl (Z.2.1 0, 10, .inl p7))]) (fun _ => rfl) dX8_copyFrom_118 (fun f30 => ?_)
  refine g_iinc (pc := 119) X 0 rfl (v := 2) (by decide) (by decide) (lv' := [(2, .int 2), (0, .ref d0), (1, .ref n0)]) rfl dX8_copyFrom_119 ?_
  refine g_goto (pc := 122) X 77 (by decide) dX8_copyFrom_122 ?_
  refine g_iload_n (pc := 77) X 0 rfl dX8_copyFrom_77 ?_
  refine g_bipush (pc := 78) X 10 (by decide) dX8_copyFrom_78 ?_
  refine g_icmp_ge (pc := 80) X 125 (by decide) dX8_copyFrom_80 (fun h => absurd h (by decide)) (fun b80 => ?_)
  refine g_aload_n (pc := 83) X 1 rfl dX8_copyFrom_83 ?_
  refine g_get (pc := 84) X inlX8 0 rfl rfl 5 (by decide) mw_4_5 rfl dX8_copyFrom_84 ?_
  refine g_iload_n (pc := 87) X 0 rfl dX8_copyFrom_87 ?_
  refine g_aload_n (pc := 88) X 2 rfl dX8_copyFrom_88 ?_
  refine g_get (pc := 89) X inlX8 8 rfl rfl 5 (by decide) mw_4_5 rfl dX8_copyFrom_89 ?_
  refine g_iload_n (pc := 92) X 0 rfl dX8_copyFrom_92 ?_
  refine g_iald (pc := 93) X 13 rfl (vp_in_iff.mpr (by decide)) dX8_copyFrom_93 ?_
  refine g_iastF (pc := 94) X 5 rfl (vp_in_iff.mpr (by decide)) (ws' := fun f31 => [(d0, .inr (8, [.ref d_papers, .ref d_starts, .ref d_bases, .ref d_hungs, .int 0, .ref d_endPapers, .ref d_endLengths, .ref d_endPhases])), (d_papers, .inl (Z.2.1 0, 6, .inl f21)), (d_starts, .inl (Z.2.1 0, 6, .inl f22)), (d_bases, .inl (Z.2.1 0, 6, .inl f23)), (d_hungs, .inl (Z.2.1 0, 6, .inl f24)), (d_endPapers, .inl (Z.2.1 0, 10, .inl f31)), (d_endLengths, .inl (Z.2.1 0, 10, .inl f29)), (d_endPhases, .inl (Z.2.1 0, 10, .inl f30)), (n0, .inr (8, [.ref n_papers, .ref n_starts, .ref n_bases, .ref n_hungs, .int 0, .ref n_endPapers, .ref n_endLengths, .ref n_endPhases])), (n_papers, .inl (Z.2.1 0, 6, .inl p1)), (n_starts, .inl (Z.2.1 0, 6, .inl p2)), (n_bases, .inl (Z.2.1 0, 6, .inl p3)), (n_hungs, .inl (Z.2.1 0, 6, .inl p4)), (n_endPapers, .inl (Z.2.1 0, 10, .inl p5)), (n_endLengths, .inl (Z.2.1 0, 10, .inl p6)), (n_endPhases, .inl (Z.2.1 0, 10, .inl p7))]) (fun _ => rfl) dX8_copyFrom_94 (fun f31 => ?_)
  refine g_aload_n (pc := 95) X 1 rfl dX8_copyFrom_95 ?_
  refine g_get (pc := 96) X inlX8 0 rfl rfl 6 (by decide) mw_4_6 rfl dX8_copyFrom_96 ?_
  refine g_iload_n (pc := 99) X 0 rfl dX8_copyFrom_99 ?_
  refine g_aload_n (pc := 100) X 2 rfl dX8_copyFrom_100 ?_
  refine g_get (pc := 101) X inlX8 8 rfl rfl 6 (by decide) mw_4_6 rfl dX8_copyFrom_101 ?_
  refine g_iload_n (pc := 104) X 0 rfl dX8_copyFrom_104 ?_
  refine g_iald (pc := 105) X 14 rfl (vp_in_iff.mpr (by decide)) dX8_copyFrom_105 ?_
  refine g_iastF (pc := 106) X 6 rfl (vp_in_iff.mpr (by decide)) (ws' := fun f32 => [(d0, .inr (8, [.ref d_papers, .ref d_starts, .ref d_bases, .ref d_hungs, .int 0, .ref d_endPapers, .ref d_endLengths, .ref d_endPhases])), (d_papers, .inl (Z.2.1 0, 6, .inl f21)), (d_starts, .inl (Z.2.1 0, 6, .inl f22)), (d_bases, .inl (Z.2.1 0, 6, .inl f23)), (d_hungs, .inl (Z.2.1 0, 6, .inl f24)), (d_endPapers, .inl (Z.2.1 0, 10, .inl f31)), (d_endLengths, .inl (Z.2.1 0, 10, .inl f32)), (d_endPhases, .inl (Z.2.1 0, 10, .inl f30)), (n0, .inr (8, [.ref n_papers, .ref n_starts, .ref n_bases, .ref n_hungs, .int 0, .ref n_endPapers, .ref n_endLengths, .ref n_endPhases])), (n_papers, .inl (Z.2.1 0, 6, .inl p1)), (n_starts, .inl (Z.2.1 0, 6, .inl p2)), (n_bases, .inl (Z.2.1 0, 6, .inl p3)), (n_hungs, .inl (Z.2.1 0, 6, .inl p4)), (n_endPapers, .inl (Z.2.1 0, 10, .inl p5)), (n_endLengths, .inl (Z.2.1 0, 10, .inl p6)), (n_endPhases, .inl (Z.2.1 0, 10, .inl p7))]) (fun _ => rfl) dX8_copyFrom_106 (fun f32 => ?_)
  refine g_aload_n (pc := 107) X 1 rfl dX8_copyFrom_107 ?_
  refine g_get (pc := 108) X inlX8 0 rfl rfl 7 (by decide) mw_4_7 rfl dX8_copyFrom_108 ?_
  refine g_iload_n (pc := 111) X 0 rfl dX8_copyFrom_111 ?_
  refine g_aload_n (pc := 112) X 2 rfl dX8_copyFrom_112 ?_
  refine g_get (pc := 113) X inlX8 8 rfl rfl 7 (by decide) mw_4_7 rfl dX8_copyFrom_113 ?_
  refine g_iload_n (pc := 116) X 0 rfl dX8_copyFrom_116 ?_
  refine g_iald (pc := 117) X 15 rfl (vp_in_iff.mpr (by decide)) dX8_copyFrom_117 ?_
  refine g_iastF (pc := 118) X 7 rfl (vp_in_iff.mpr (by decide)) (ws' := fun f33 => [(d0, .inr (8, [.ref d_papers, .ref d_starts, .ref d_bases, .ref d_hungs, .int 0, .ref d_endPapers, .ref d_endLengths, .ref d_endPhases])), (d_papers, .inl (Z.2.1 0, 6, .inl f21)), (d_starts, .inl (Z.2.1 0, 6, .inl f22)), (d_bases, .inl (Z.2.1 0, 6, .inl f23)), (d_hungs, .inl (Z.2.1 0, 6, .inl f24)), (d_endPapers, .inl (Z.2.1 0, 10, .inl f31)), (d_endLengths, .inl (Z.2.1 0, 10, .inl f32)), (d_endPhases, .inl (Z.2.1 0, 10, .inl f33)), (n0, .inr (8, [.ref n_papers, .ref n_starts, .ref n_bases, .ref n_hungs, .int 0, .ref n_endPapers, .ref n_endLengths, .ref n_endPhases])), (n_papers, .inl (Z.2.1 0, 6, .inl p1)), (n_starts, .inl (Z.2.1 0, 6, .inl p2)), (n_bases, .inl (Z.2.1 0, 6, .inl p3)), (n_hungs, .inl (Z.2.1 0, 6, .inl p4)), (n_endPapers, .inl (Z.2.1 0, 10, .inl p5)), (n_endLengths, .inl (Z.2.1 0, 10, .inl p6)), (n_endPhases, .inl (Z.2.1 0, 10, .inl p7))]) (fun _ => rfl) dX8_copyFrom_118 (fun f33 => ?_)
  refine g_iinc (pc := 119) X 0 rfl (v := 3) (by decide) (by decide) (lv' := [(2, .int 3), (0, .ref d0), (1, .ref n0)]) rfl dX8_copyFrom_119 ?_
  refine g_goto (pc := 122) X 77 (by decide) dX8_copyFrom_122 ?_
  refine g_iload_n (pc := 77) X 0 rfl dX8_copyFrom_77 ?_
  refine g_bipush (pc := 78) X 10 (by decide) dX8_copyFrom_78 ?_
  refine g_icmp_ge (pc := 80) X 125 (by decide) dX8_copyFrom_80 (fun h => absurd h (by decide)) (fun b80 => ?_)
  refine g_aload_n (pc := 83) X 1 rfl dX8_copyFrom_83 ?_
  refine g_get (pc := 84) X inlX8 0 rfl rfl 5 (by decide) mw_4_5 rfl dX8_copyFrom_84 ?_
  refine g_iload_n (pc := 87) X 0 rfl dX8_copyFrom_87 ?_
  refine g_aload_n (pc := 88) X 2 rfl dX8_copyFrom_88 ?_
  refine g_get (pc := 89) X inlX8 8 rfl rfl 5 (by decide) mw_4_5 rfl dX8_copyFrom_89 ?_
  refine g_iload_n (pc := 92) X 0 rfl dX8_copyFrom_92 ?_
  refine g_iald (pc := 93) X 13 rfl (vp_in_iff.mpr (by decide)) dX8_copyFrom_93 ?_
  refine g_iastF (pc := 94) X 5 rfl (vp_in_iff.mpr (by decide)) (ws' := fun f34 => [(d0, .inr (8, [.ref d_papers, .ref d_starts, .ref d_bases, .ref d_hungs, .int 0, .ref d_endPapers, .ref d_endLengths, .ref d_endPhases])), (d_papers, .inl (Z.2.1 0, 6, .inl f21)), (d_starts, .inl (Z.2.1 0, 6, .inl f22)), (d_bases, .inl (Z.2.1 0, 6, .inl f23)), (d_hungs, .inl (Z.2.1 0, 6, .inl f24)), (d_endPapers, .inl (Z.2.1 0, 10, .inl f34)), (d_endLengths, .inl (Z.2.1 0, 10, .inl f32)), (d_endPhases, .inl (Z.2.1 0, 10, .inl f33)), (n0, .inr (8, [.ref n_papers, .ref n_starts, .ref n_bases, .ref n_hungs, .int 0, .ref n_endPapers, .ref n_endLengths, .ref n_endPhases])), (n_papers, .inl (Z.2.1 0, 6, .inl p1)), (n_starts, .inl (Z.2.1 0, 6, .inl p2)), (n_bases, .inl (Z.2.1 0, 6, .inl p3)), (n_hungs, .inl (Z.2.1 0, 6, .inl p4)), (n_endPapers, .inl (Z.2.1 0, 10, .inl p5)), (n_endLengths, .inl (Z.2.1 0, 10, .inl p6)), (n_endPhases, .inl (Z.2.1 0, 10, .inl p7))]) (fun _ => rfl) dX8_copyFrom_94 (fun f34 => ?_)
  refine g_aload_n (pc := 95) X 1 rfl dX8_copyFrom_95 ?_
  refine g_get (pc := 96) X inlX8 0 rfl rfl 6 (by decide) mw_4_6 rfl dX8_copyFrom_96 ?_
  refine g_iload_n (pc := 99) X 0 rfl dX8_copyFrom_99 ?_
  refine g_aload_n (pc := 100) X 2 rfl dX8_copyFrom_100 ?_
  refine g_get (pc := 101) X inlX8 8 rfl rfl 6 (by decide) mw_4_6 rfl dX8_copyFrom_101 ?_
  refine g_iload_n (pc := 104) X 0 rfl dX8_copyFrom_104 ?_
  refine g_iald (pc := 105) X 14 rfl (vp_in_iff.mpr (by decide)) dX8_copyFrom_105 ?_
  refine g_iastF (pc := 106) X 6 rfl (vp_in_iff.mpr (by decide)) (ws' := fun f35 => [(d0, .inr (8, [.ref d_papers, .ref d_starts, .ref d_bases, .ref d_hungs, .int 0, .ref d_endPapers, .ref d_endLengths, .ref d_endPhases])), (d_papers, .inl (Z.2.1 0, 6, .inl f21)), (d_starts, .inl (Z.2.1 0, 6, .inl f22)), (d_bases, .inl (Z.2.1 0, 6, .inl f23)), (d_hungs, .inl (Z.2.1 0, 6, .inl f24)), (d_endPapers, .inl (Z.2.1 0, 10, .inl f34)), (d_endLengths, .inl (Z.2.1 0, 10, .inl f35)), (d_endPhases, .inl (Z.2.1 0, 10, .inl f33)), (n0, .inr (8, [.ref n_papers, .ref n_starts, .ref n_bases, .ref n_hungs, .int 0, .ref n_endPapers, .ref n_endLengths, .ref n_endPhases])), (n_papers, .inl (Z.2.1 0, 6, .inl p1)), (n_starts, .inl (Z.2.1 0, 6, .inl p2)), (n_bases, .inl (Z.2.1 0, 6, .inl p3)), (n_hungs, .inl (Z.2.1 0, 6, .inl p4)), (n_endPapers, .inl (Z.2.1 0, 10, .inl p5)), (n_endLengths, .inl (Z.2.1 0, 10, .inl p6)), (n_endPhases, .inl (Z.2.1 0, 10, .inl p7))]) (fun _ => rfl) dX8_copyFrom_106 (fun f35 => ?_)
  refine g_aload_n (pc := 107) X 1 rfl dX8_copyFrom_107 ?_
  refine g_get (pc := 108) X inlX8 0 rfl rfl 7 (by decide) mw_4_7 rfl dX8_copyFrom_108 ?_
  refine g_iload_n (pc := 111) X 0 rfl dX8_copyFrom_111 ?_
  refine g_aload_n (pc := 112) X 2 rfl dX8_copyFrom_112 ?_
  refine g_get (pc := 113) X inlX8 8 rfl rfl 7 (by decide) mw_4_7 rfl dX8_copyFrom_113 ?_
  refine g_iload_n (pc := 116) X 0 rfl dX8_copyFrom_116 ?_
  refine g_iald (pc := 117) X 15 rfl (vp_in_iff.mpr (by decide)) dX8_copyFrom_117 ?_
  refine g_iastF (pc := 118) X 7 rfl (vp_in_iff.mpr (by decide)) (ws' := fun f36 => [(d0, .inr (8, [.ref d_papers, .ref d_starts, .ref d_bases, .ref d_hungs, .int 0, .ref d_endPapers, .ref d_endLengths, .ref d_endPhases])), (d_papers, .inl (Z.2.1 0, 6, .inl f21)), (d_starts, .inl (Z.2.1 0, 6, .inl f22)), (d_bases, .inl (Z.2.1 0, 6, .inl f23)), (d_hungs, .inl (Z.2.1 0, 6, .inl f24)), (d_endPapers, .inl (Z.2.1 0, 10, .inl f34)), (d_endLengths, .inl (Z.2.1 0, 10, .inl f35)), (d_endPhases, .inl (Z.2.1 0, 10, .inl f36)), (n0, .inr (8, [.ref n_papers, .ref n_starts, .ref n_bases, .ref n_hungs, .int 0, .ref n_endPapers, .ref n_endLengths, .ref n_endPhases])), (n_papers, .inl (Z.2.1 0, 6, .inl p1)), (n_starts, .inl (Z.2.1 0, 6, .inl p2)), (n_bases, .inl (Z.2.1 0, 6, .inl p3)), (n_hungs, .inl (Z.2.1 0, 6, .inl p4)), (n_endPapers, .inl (Z.2.1 0, 10, .inl p5)), (n_endLengths, .inl (Z.2.1 0, 10, .inl p6)), (n_endPhases, .inl (Z.2.1 0, 10, .inl p7))]) (fun _ => rfl) dX8_copyFrom_118 (fun f36 => ?_)
  refine g_iinc (pc := 119) X 0 rfl (v := 4) (by decide) (by decide) (lv' := [(2, .int 4), (0, .ref d0), (1, .ref n0)]) rfl dX8_copyFrom_119 ?_
  refine g_goto (pc := 122) X 77 (by decide) dX8_copyFrom_122 ?_
  refine g_iload_n (pc := 77) X 0 rfl dX8_copyFrom_77 ?_
  refine g_bipush (pc := 78) X 10 (by decide) dX8_copyFrom_78 ?_
  refine g_icmp_ge (pc := 80) X 125 (by decide) dX8_copyFrom_80 (fun h => absurd h (by decide)) (fun b80 => ?_)
  refine g_aload_n (pc := 83) X 1 rfl dX8_copyFrom_83 ?_
  refine g_get (pc := 84) X inlX8 0 rfl rfl 5 (by decide) mw_4_5 rfl dX8_copyFrom_84 ?_
  refine g_iload_n (pc := 87) X 0 rfl dX8_copyFrom_87 ?_
  refine g_aload_n (pc := 88) X 2 rfl dX8_copyFrom_88 ?_
  refine g_get (pc := 89) X inlX8 8 rfl rfl 5 (by decide) mw_4_5 rfl dX8_copyFrom_89 ?_
  refine g_iload_n (pc := 92) X 0 rfl dX8_copyFrom_92 ?_
  refine g_iald (pc := 93) X 13 rfl (vp_in_iff.mpr (by decide)) dX8_copyFrom_93 ?_
  refine g_iastF (pc := 94) X 5 rfl (vp_in_iff.mpr (by decide)) (ws' := fun f37 => [(d0, .inr (8, [.ref d_papers, .ref d_starts, .ref d_bases, .ref d_hungs, .int 0, .ref d_endPapers, .ref d_endLengths, .ref d_endPhases])), (d_papers, .inl (Z.2.1 0, 6, .inl f21)), (d_starts, .inl (Z.2.1 0, 6, .inl f22)), (d_bases, .inl (Z.2.1 0, 6, .inl f23)), (d_hungs, .inl (Z.2.1 0, 6, .inl f24)), (d_endPapers, .inl (Z.2.1 0, 10, .inl f37)), (d_endLengths, .inl (Z.2.1 0, 10, .inl f35)), (d_endPhases, .inl (Z.2.1 0, 10, .inl f36)), (n0, .inr (8, [.ref n_papers, .ref n_starts, .ref n_bases, .ref n_hungs, .int 0, .ref n_endPapers, .ref n_endLengths, .ref n_endPhases])), (n_papers, .inl (Z.2.1 0, 6, .inl p1)), (n_starts, .inl (Z.2.1 0, 6, .inl p2)), (n_bases, .inl (Z.2.1 0, 6, .inl p3)), (n_hungs, .inl (Z.2.1 0, 6, .inl p4)), (n_endPapers, .inl (Z.2.1 0, 10, .inl p5)), (n_endLengths, .inl (Z.2.1 0, 10, .inl p6)), (n_endPhases, .inl (Z.2.1 0, 10, .inl p7))]) (fun _ => rfl) dX8_copyFrom_94 (fun f37 => ?_)
  refine g_aload_n (pc := 95) X 1 rfl dX8_copyFrom_95 ?_
  refine g_get (pc := 96) X inlX8 0 rfl rfl 6 (by decide) mw_4_6 rfl dX8_copyFrom_96 ?_
  refine g_iload_n (pc := 99) X 0 rfl dX8_copyFrom_99 ?_
  refine g_aload_n (pc := 100) X 2 rfl dX8_copyFrom_100 ?_
  refine g_get (pc := 101) X inlX8 8 rfl rfl 6 (by decide) mw_4_6 rfl dX8_copyFrom_101 ?_
  refine g_iload_n (pc := 104) X 0 rfl dX8_copyFrom_104 ?_
  refine g_iald (pc := 105) X 14 rfl (vp_in_iff.mpr (by decide)) dX8_copyFrom_105 ?_
  refine g_iastF (pc := 106) X 6 rfl (vp_in_iff.mpr (by decide)) (ws' := fun f38 => [(d0, .inr (8, [.ref d_papers, .ref d_starts, .ref d_bases, .ref d_hungs, .int 0, .ref d_endPapers, .ref d_endLengths, .ref d_endPhases])), (d_papers, .inl (Z.2.1 0, 6, .inl f21)), (d_starts, .inl (Z.2.1 0, 6, .inl f22)), (d_bases, .inl (Z.2.1 0, 6, .inl f23)), (d_hungs, .inl (Z.2.1 0, 6, .inl f24)), (d_endPapers, .inl (Z.2.1 0, 10, .inl f37)), (d_endLengths, .inl (Z.2.1 0, 10, .inl f38)), (d_endPhases, .inl (Z.2.1 0, 10, .inl f36)), (n0, .inr (8, [.ref n_papers, .ref n_starts, .ref n_bases, .ref n_hungs, .int 0, .ref n_endPapers, .ref n_endLengths, .ref n_endPhases])), (n_papers, .inl (Z.2.1 0, 6, .inl p1)), (n_starts, .inl (Z.2.1 0, 6, .inl p2)), (n_bases, .inl (Z.2.1 0, 6, .inl p3)), (n_hungs, .inl (Z.2.1 0, 6, .inl p4)), (n_endPapers, .inl (Z.2.1 0, 10, .inl p5)), (n_endLengths, .inl (Z.2.1 0, 10, .inl p6)), (n_endPhases, .inl (Z.2.1 0, 10, .inl p7))]) (fun _ => rfl) dX8_copyFrom_106 (fun f38 => ?_)
  refine g_aload_n (pc := 107) X 1 rfl dX8_copyFrom_107 ?_
  refine g_get (pc := 108) X inlX8 0 rfl rfl 7 (by decide) mw_4_7 rfl dX8_copyFrom_108 ?_
  refine g_iload_n (pc := 111) X 0 rfl dX8_copyFrom_111 ?_
  refine g_aload_n (pc := 112) X 2 rfl dX8_copyFrom_112 ?_
  refine g_get (pc := 113) X inlX8 8 rfl rfl 7 (by decide) mw_4_7 rfl dX8_copyFrom_113 ?_
  refine g_iload_n (pc := 116) X 0 rfl dX8_copyFrom_116 ?_
  refine g_iald (pc := 117) X 15 rfl (vp_in_iff.mpr (by decide)) dX8_copyFrom_117 ?_
  refine g_iastF (pc := 118) X 7 rfl (vp_in_iff.mpr (by decide)) (ws' := fun f39 => [(d0, .inr (8, [.ref d_papers, .ref d_starts, .ref d_bases, .ref d_hungs, .int 0, .ref d_endPapers, .ref d_endLengths, .ref d_endPhases])), (d_papers, .inl (Z.2.1 0, 6, .inl f21)), (d_starts, .inl (Z.2.1 0, 6, .inl f22)), (d_bases, .inl (Z.2.1 0, 6, .inl f23)), (d_hungs, .inl (Z.2.1 0, 6, .inl f24)), (d_endPapers, .inl (Z.2.1 0, 10, .inl f37)), (d_endLengths, .inl (Z.2.1 0, 10, .inl f38)), (d_endPhases, .inl (Z.2.1 0, 10, .inl f39)), (n0, .inr (8, [.ref n_papers, .ref n_starts, .ref n_bases, .ref n_hungs, .int 0, .ref n_endPapers, .ref n_endLengths, .ref n_endPhases])), (n_papers, .inl (Z.2.1 0, 6, .inl p1)), (n_starts, .inl (Z.2.1 0, 6, .inl p2)), (n_bases, .inl (Z.2.1 0, 6, .inl p3)), (n_hungs, .inl (Z.2.1 0, 6, .inl p4)), (n_endPapers, .inl (Z.2.1 0, 10, .inl p5)), (n_endLengths, .inl (Z.2.1 0, 10, .inl p6)), (n_endPhases, .inl (Z.2.1 0, 10, .inl p7))]) (fun _ => rfl) dX8_copyFrom_118 (fun f39 => ?_)
  refine g_iinc (pc := 119) X 0 rfl (v := 5) (by decide) (by decide) (lv' := [(2, .int 5), (0, .ref d0), (1, .ref n0)]) rfl dX8_copyFrom_119 ?_
  refine g_goto (pc := 122) X 77 (by decide) dX8_copyFrom_122 ?_
  refine g_iload_n (pc := 77) X 0 rfl dX8_copyFrom_77 ?_
  refine g_bipush (pc := 78) X 10 (by decide) dX8_copyFrom_78 ?_
  refine g_icmp_ge (pc := 80) X 125 (by decide) dX8_copyFrom_80 (fun h => absurd h (by decide)) (fun b80 => ?_)
  refine g_aload_n (pc := 83) X 1 rfl dX8_copyFrom_83 ?_
  refine g_get (pc := 84) X inlX8 0 rfl rfl 5 (by decide) mw_4_5 rfl dX8_copyFrom_84 ?_
  refine g_iload_n (pc := 87) X 0 rfl dX8_copyFrom_87 ?_
  refine g_aload_n (pc := 88) X 2 rfl dX8_copyFrom_88 ?_
  refine g_get (pc := 89) X inlX8 8 rfl rfl 5 (by decide) mw_4_5 rfl dX8_copyFrom_89 ?_
  refine g_iload_n (pc := 92) X 0 rfl dX8_copyFrom_92 ?_
  refine g_iald (pc := 93) X 13 rfl (vp_in_iff.mpr (by decide)) dX8_copyFrom_93 ?_
  refine g_iastF (pc := 94) X 5 rfl (vp_in_iff.mpr (by decide)) (ws' := fun f40 => [(d0, .inr (8, [.ref d_papers, .ref d_starts, .ref d_bases, .ref d_hungs, .int 0, .ref d_endPapers, .ref d_endLengths, .ref d_endPhases])), (d_papers, .inl (Z.2.1 0, 6, .inl f21)), (d_starts, .inl (Z.2.1 0, 6, .inl f22)), (d_bases, .inl (Z.2.1 0, 6, .inl f23)), (d_hungs, .inl (Z.2.1 0, 6, .inl f24)), (d_endPapers, .inl (Z.2.1 0, 10, .inl f40)), (d_endLengths, .inl (Z.2.1 0, 10, .inl f38)), (d_endPhases, .inl (Z.2.1 0, 10, .inl f39)), (n0, .inr (8, [.ref n_papers, .ref n_starts, .ref n_bases, .ref n_hungs, .int 0, .ref n_endPapers, .ref n_endLengths, .ref n_endPhases])), (n_papers, .inl (Z.2.1 0, 6, .inl p1)), (n_starts, .inl (Z.2.1 0, 6, .inl p2)), (n_bases, .inl (Z.2.1 0, 6, .inl p3)), (n_hungs, .inl (Z.2.1 0, 6, .inl p4)), (n_endPapers, .inl (Z.2.1 0, 10, .inl p5)), (n_endLengths, .inl (Z.2.1 0, 10, .inl p6)), (n_endPhases, .inl (Z.2.1 0, 10, .inl p7))]) (fun _ => rfl) dX8_copyFrom_94 (fun f40 => ?_)
  refine g_aload_n (pc := 95) X 1 rfl dX8_copyFrom_95 ?_
  refine g_get (pc := 96) X inlX8 0 rfl rfl 6 (by decide) mw_4_6 rfl dX8_copyFrom_96 ?_
  refine g_iload_n (pc := 99) X 0 rfl dX8_copyFrom_99 ?_
  refine g_aload_n (pc := 100) X 2 rfl dX8_copyFrom_100 ?_
  refine g_get (pc := 101) X inlX8 8 rfl rfl 6 (by decide) mw_4_6 rfl dX8_copyFrom_101 ?_
  refine g_iload_n (pc := 104) X 0 rfl dX8_copyFrom_104 ?_
  refine g_iald (pc := 105) X 14 rfl (vp_in_iff.mpr (by decide)) dX8_copyFrom_105 ?_
  refine g_iastF (pc := 106) X 6 rfl (vp_in_iff.mpr (by decide)) (ws' := fun f41 => [(d0, .inr (8, [.ref d_papers, .ref d_starts, .ref d_bases, .ref d_hungs, .int 0, .ref d_endPapers, .ref d_endLengths, .ref d_endPhases])), (d_papers, .inl (Z.2.1 0, 6, .inl f21)), (d_starts, .inl (Z.2.1 0, 6, .inl f22)), (d_bases, .inl (Z.2.1 0, 6, .inl f23)), (d_hungs, .inl (Z.2.1 0, 6, .inl f24)), (d_endPapers, .inl (Z.2.1 0, 10, .inl f40)), (d_endLengths, .inl (Z.2.1 0, 10, .inl f41)), (d_endPhases, .inl (Z.2.1 0, 10, .inl f39)), (n0, .inr (8, [.ref n_papers, .ref n_starts, .ref n_bases, .ref n_hungs, .int 0, .ref n_endPapers, .ref n_endLengths, .ref n_endPhases])), (n_papers, .inl (Z.2.1 0, 6, .inl p1)), (n_starts, .inl (Z.2.1 0, 6, .inl p2)), (n_bases, .inl (Z.2.1 0, 6, .inl p3)), (n_hungs, .inl (Z.2.1 0, 6, .inl p4)), (n_endPapers, .inl (Z.2.1 0, 10, .inl p5)), (n_endLengths, .inl (Z.2.1 0, 10, .inl p6)), (n_endPhases, .inl (Z.2.1 0, 10, .inl p7))]) (fun _ => rfl) dX8_copyFrom_106 (fun f41 => ?_)
  refine g_aload_n (pc := 107) X 1 rfl dX8_copyFrom_107 ?_
  refine g_get (pc := 108) X inlX8 0 rfl rfl 7 (by decide) mw_4_7 rfl dX8_copyFrom_108 ?_
  refine g_iload_n (pc := 111) X 0 rfl dX8_copyFrom_111 ?_
  refine g_aload_n (pc := 112) X 2 rfl dX8_copyFrom_112 ?_
  refine g_get (pc := 113) X inlX8 8 rfl rfl 7 (by decide) mw_4_7 rfl dX8_copyFrom_113 ?_
  refine g_iload_n (pc := 116) X 0 rfl dX8_copyFrom_116 ?_
  refine g_iald (pc := 117) X 15 rfl (vp_in_iff.mpr (by decide)) dX8_copyFrom_117 ?_
  refine g_iastF (pc := 118) X 7 rfl (vp_in_iff.mpr (by decide)) (ws' := fun f42 => [(d0, .inr (8, [.ref d_papers, .ref d_starts, .ref d_bases, .ref d_hungs, .int 0, .ref d_endPapers, .ref d_endLengths, .ref d_endPhases])), (d_papers, .inl (Z.2.1 0, 6, .inl f21)), (d_starts, .inl (Z.2.1 0, 6, .inl f22)), (d_bases, .inl (Z.2.1 0, 6, .inl f23)), (d_hungs, .inl (Z.2.1 0, 6, .inl f24)), (d_endPapers, .inl (Z.2.1 0, 10, .inl f40)), (d_endLengths, .inl (Z.2.1 0, 10, .inl f41)), (d_endPhases, .inl (Z.2.1 0, 10, .inl f42)), (n0, .inr (8, [.ref n_papers, .ref n_starts, .ref n_bases, .ref n_hungs, .int 0, .ref n_endPapers, .ref n_endLengths, .ref n_endPhases])), (n_papers, .inl (Z.2.1 0, 6, .inl p1)), (n_starts, .inl (Z.2.1 0, 6, .inl p2)), (n_bases, .inl (Z.2.1 0, 6, .inl p3)), (n_hungs, .inl (Z.2.1 0, 6, .inl p4)), (n_endPapers, .inl (Z.2.1 0, 10, .inl p5)), (n_endLengths, .inl (Z.2.1 0, 10, .inl p6)), (n_endPhases, .inl (Z.2.1 0, 10, .inl p7))]) (fun _ => rfl) dX8_copyFrom_118 (fun f42 => ?_)
  refine g_iinc (pc := 119) X 0 rfl (v := 6) (by decide) (by decide) (lv' := [(2, .int 6), (0, .ref d0), (1, .ref n0)]) rfl dX8_copyFrom_119 ?_
  refine g_goto (pc := 122) X 77 (by decide) dX8_copyFrom_122 ?_
  refine g_iload_n (pc := 77) X 0 rfl dX8_copyFrom_77 ?_
  refine g_bipush (pc := 78) X 10 (by decide) dX8_copyFrom_78 ?_
  refine g_icmp_ge (pc := 80) X 125 (by decide) dX8_copyFrom_80 (fun h => absurd h (by decide)) (fun b80 => ?_)
  refine g_aload_n (pc := 83) X 1 rfl dX8_copyFrom_83 ?_
  refine g_get (pc := 84) X inlX8 0 rfl rfl 5 (by decide) mw_4_5 rfl dX8_copyFrom_84 ?_
  refine g_iload_n (pc := 87) X 0 rfl dX8_copyFrom_87 ?_
  refine g_aload_n (pc := 88) X 2 rfl dX8_copyFrom_88 ?_
  refine g_get (pc := 89) X inlX8 8 rfl rfl 5 (by decide) mw_4_5 rfl dX8_copyFrom_89 ?_
  refine g_iload_n (pc := 92) X 0 rfl dX8_copyFrom_92 ?_
  refine g_iald (pc := 93) X 13 rfl (vp_in_iff.mpr (by decide)) dX8_copyFrom_93 ?_
  refine g_iastF (pc := 94) X 5 rfl (vp_in_iff.mpr (by decide)) (ws' := fun f43 => [(d0, .inr (8, [.ref d_papers, .ref d_starts, .ref d_bases, .ref d_hungs, .int 0, .ref d_endPapers, .ref d_endLengths, .ref d_endPhases])), (d_papers, .inl (Z.2.1 0, 6, .inl f21)), (d_starts, .inl (Z.2.1 0, 6, .inl f22)), (d_bases, .inl (Z.2.1 0, 6, .inl f23)), (d_hungs, .inl (Z.2.1 0, 6, .inl f24)), (d_endPapers, .inl (Z.2.1 0, 10, .inl f43)), (d_endLengths, .inl (Z.2.1 0, 10, .inl f41)), (d_endPhases, .inl (Z.2.1 0, 10, .inl f42)), (n0, .inr (8, [.ref n_papers, .ref n_starts, .ref n_bases, .ref n_hungs, .int 0, .ref n_endPapers, .ref n_endLengths, .ref n_endPhases])), (n_papers, .inl (Z.2.1 0, 6, .inl p1)), (n_starts, .inl (Z.2.1 0, 6, .inl p2)), (n_bases, .inl (Z.2.1 0, 6, .inl p3)), (n_hungs, .inl (Z.2.1 0, 6, .inl p4)), (n_endPapers, .inl (Z.2.1 0, 10, .inl p5)), (n_endLengths, .inl (Z.2.1 0, 10, .inl p6)), (n_endPhases, .inl (Z.2.1 0, 10, .inl p7))]) (fun _ => rfl) dX8_copyFrom_94 (fun f43 => ?_)
  refine g_aload_n (pc := 95) X 1 rfl dX8_copyFrom_95 ?_
  refine g_get (pc := 96) X inlX8 0 rfl rfl 6 (by decide) mw_4_6 rfl dX8_copyFrom_96 ?_
  refine g_iload_n (pc := 99) X 0 rfl dX8_copyFrom_99 ?_
  refine g_aload_n (pc := 100) X 2 rfl dX8_copyFrom_100 ?_
  refine g_get (pc := 101) X inlX8 8 rfl rfl 6 (by decide) mw_4_6 rfl dX8_copyFrom_101 ?_
  refine g_iload_n (pc := 104) X 0 rfl dX8_copyFrom_104 ?_
  refine g_iald (pc := 105) X 14 rfl (vp_in_iff.mpr (by decide)) dX8_copyFrom_105 ?_
  refine g_iastF (pc := 106) X 6 rfl (vp_in_iff.mpr (by decide)) (ws' := fun f44 => [(d0, .inr (8, [.ref d_papers, .ref d_starts, .ref d_bases, .ref d_hungs, .int 0, .ref d_endPapers, .ref d_endLengths, .ref d_endPhases])), (d_papers, .inl (Z.2.1 0, 6, .inl f21)), (d_starts, .inl (Z.2.1 0, 6, .inl f22)), (d_bases, .inl (Z.2.1 0, 6, .inl f23)), (d_hungs, .inl (Z.2.1 0, 6, .inl f24)), (d_endPapers, .inl (Z.2.1 0, 10, .inl f43)), (d_endLengths, .inl (Z.2.1 0, 10, .inl f44)), (d_endPhases, .inl (Z.2.1 0, 10, .inl f42)), (n0, .inr (8, [.ref n_papers, .ref n_starts, .ref n_bases, .ref n_hungs, .int 0, .ref n_endPapers, .ref n_endLengths, .ref n_endPhases])), (n_papers, .inl (Z.2.1 0, 6, .inl p1)), (n_starts, .inl (Z.2.1 0, 6, .inl p2)), (n_bases, .inl (Z.2.1 0, 6, .inl p3)), (n_hungs, .inl (Z.2.1 0, 6, .inl p4)), (n_endPapers, .inl (Z.2.1 0, 10, .inl p5)), (n_endLengths, .inl (Z.2.1 0, 10, .inl p6)), (n_endPhases, .inl (Z.2.1 0, 10, .inl p7))]) (fun _ => rfl) dX8_copyFrom_106 (fun f44 => ?_)
  refine g_aload_n (pc := 107) X 1 rfl dX8_copyFrom_107 ?_
  refine g_get (pc := 108) X inlX8 0 rfl rfl 7 (by decide) mw_4_7 rfl dX8_copyFrom_108 ?_
  refine g_iload_n (pc := 111) X 0 rfl dX8_copyFrom_111 ?_
  refine g_aload_n (pc := 112) X 2 rfl dX8_copyFrom_112 ?_
  refine g_get (pc := 113) X inlX8 8 rfl rfl 7 (by decide) mw_4_7 rfl dX8_copyFrom_113 ?_
  refine g_iload_n (pc := 116) X 0 rfl dX8_copyFrom_116 ?_
  refine g_iald (pc := 117) X 15 rfl (vp_in_iff.mpr (by decide)) dX8_copyFrom_117 ?_
  refine g_iastF (pc := 118) X 7 rfl (vp_in_iff.mpr (by decide)) (ws' := fun f45 => [(d0, .inr (8, [.ref d_papers, .ref d_starts, .ref d_bases, .ref d_hungs, .int 0, .ref d_endPapers, .ref d_endLengths, .ref d_endPhases])), (d_papers, .inl (Z.2.1 0, 6, .inl f21)), (d_starts, .inl (Z.2.1 0, 6, .inl f22)), (d_bases, .inl (Z.2.1 0, 6, .inl f23)), (d_hungs, .inl (Z.2.1 0, 6, .inl f24)), (d_endPapers, .inl (Z.2.1 0, 10, .inl f43)), (d_endLengths, .inl (Z.2.1 0, 10, .inl f44)), (d_endPhases, .inl (Z.2.1 0, 10, .inl f45)), (n0, .inr (8, [.ref n_papers, .ref n_starts, .ref n_bases, .ref n_hungs, .int 0, .ref n_endPapers, .ref n_endLengths, .ref n_endPhases])), (n_papers, .inl (Z.2.1 0, 6, .inl p1)), (n_starts, .inl (Z.2.1 0, 6, .inl p2)), (n_bases, .inl (Z.2.1 0, 6, .inl p3)), (n_hungs, .inl (Z.2.1 0, 6, .inl p4)), (n_endPapers, .inl (Z.2.1 0, 10, .inl p5)), (n_endLengths, .inl (Z.2.1 0, 10, .inl p6)), (n_endPhases, .inl (Z.2.1 0, 10, .inl p7))]) (fun _ => rfl) dX8_copyFrom_118 (fun f45 => ?_)
  refine g_iinc (pc := 119) X 0 rfl (v := 7) (by decide) (by decide) (lv' := [(2, .int 7), (0, .ref d0), (1, .ref n0)]) rfl dX8_copyFrom_119 ?_
  refine g_goto (pc := 122) X 77 (by decide) dX8_copyFrom_122 ?_
  refine g_iload_n (pc := 77) X 0 rfl dX8_copyFrom_77 ?_
  refine g_bipush (pc := 78) X 10 (by decide) dX8_copyFrom_78 ?_
  refine g_icmp_ge (pc := 80) X 125 (by decide) dX8_copyFrom_80 (fun h => absurd h (by decide)) (fun b80 => ?_)
  refine g_aload_n (pc := 83) X 1 rfl dX8_copyFrom_83 ?_
  refine g_get (pc := 84) X inlX8 0 rfl rfl 5 (by decide) mw_4_5 rfl dX8_copyFrom_84 ?_
  refine g_iload_n (pc := 87) X 0 rfl dX8_copyFrom_87 ?_
  refine g_aload_n (pc := 88) X 2 rfl dX8_copyFrom_88 ?_
  refine g_get (pc := 89) X inlX8 8 rfl rfl 5 (by decide) mw_4_5 rfl dX8_copyFrom_89 ?_
  refine g_iload_n (pc := 92) X 0 rfl dX8_copyFrom_92 ?_
  refine g_iald (pc := 93) X 13 rfl (vp_in_iff.mpr (by decide)) dX8_copyFrom_93 ?_
  refine g_iastF (pc := 94) X 5 rfl (vp_in_iff.mpr (by decide)) (ws' := fun f46 => [(d0, .inr (8, [.ref d_papers, .ref d_starts, .ref d_bases, .ref d_hungs, .int 0, .ref d_endPapers, .ref d_endLengths, .ref d_endPhases])), (d_papers, .inl (Z.2.1 0, 6, .inl f21)), (d_starts, .inl (Z.2.1 0, 6, .inl f22)), (d_bases, .inl (Z.2.1 0, 6, .inl f23)), (d_hungs, .inl (Z.2.1 0, 6, .inl f24)), (d_endPapers, .inl (Z.2.1 0, 10, .inl f46)), (d_endLengths, .inl (Z.2.1 0, 10, .inl f44)), (d_endPhases, .inl (Z.2.1 0, 10, .inl f45)), (n0, .inr (8, [.ref n_papers, .ref n_starts, .ref n_bases, .ref n_hungs, .int 0, .ref n_endPapers, .ref n_endLengths, .ref n_endPhases])), (n_papers, .inl (Z.2.1 0, 6, .inl p1)), (n_starts, .inl (Z.2.1 0, 6, .inl p2)), (n_bases, .inl (Z.2.1 0, 6, .inl p3)), (n_hungs, .inl (Z.2.1 0, 6, .inl p4)), (n_endPapers, .inl (Z.2.1 0, 10, .inl p5)), (n_endLengths, .inl (Z.2.1 0, 10, .inl p6)), (n_endPhases, .inl (Z.2.1 0, 10, .inl p7))]) (fun _ => rfl) dX8_copyFrom_94 (fun f46 => ?_)
  refine g_aload_n (pc := 95) X 1 rfl dX8_copyFrom_95 ?_
  refine g_get (pc := 96) X inlX8 0 rfl rfl 6 (by decide) mw_4_6 rfl dX8_copyFrom_96 ?_
  refine g_iload_n (pc := 99) X 0 rfl dX8_copyFrom_99 ?_
  refine g_aload_n (pc := 100) X 2 rfl dX8_copyFrom_100 ?_
  refine g_get (pc := 101) X inlX8 8 rfl rfl 6 (by decide) mw_4_6 rfl dX8_copyFrom_101 ?_
  refine g_iload_n (pc := 104) X 0 rfl dX8_copyFrom_104 ?_
  refine g_iald (pc := 105) X 14 rfl (vp_in_iff.mpr (by decide)) dX8_copyFrom_105 ?_
  refine g_iastF (pc := 106) X 6 rfl (vp_in_iff.mpr (by decide)) (ws' := fun f47 => [(d0, .inr (8, [.ref d_papers, .ref d_starts, .ref d_bases, .ref d_hungs, .int 0, .ref d_endPapers, .ref d_endLengths, .ref d_endPhases])), (d_papers, .inl (Z.2.1 0, 6, .inl f21)), (d_starts, .inl (Z.2.1 0, 6, .inl f22)), (d_bases, .inl (Z.2.1 0, 6, .inl f23)), (d_hungs, .inl (Z.2.1 0, 6, .inl f24)), (d_endPapers, .inl (Z.2.1 0, 10, .inl f46)), (d_endLengths, .inl (Z.2.1 0, 10, .inl f47)), (d_endPhases, .inl (Z.2.1 0, 10, .inl f45)), (n0, .inr (8, [.ref n_papers, .ref n_starts, .ref n_bases, .ref n_hungs, .int 0, .ref n_endPapers, .ref n_endLengths, .ref n_endPhases])), (n_papers, .inl (Z.2.1 0, 6, .inl p1)), (n_starts, .inl (Z.2.1 0, 6, .inl p2)), (n_bases, .inl (Z.2.1 0, 6, .inl p3)), (n_hungs, .inl (Z.2.1 0, 6, .inl p4)), (n_endPapers, .inl (Z.2.1 0, 10, .inl p5)), (n_endLengths, .inl (Z.2.1 0, 10, .inl p6)), (n_endPhases, .inl (Z.2.1 0, 10, .inl p7))]) (fun _ => rfl) dX8_copyFrom_106 (fun f47 => ?_)
  refine g_aload_n (pc := 107) X 1 rfl dX8_copyFrom_107 ?_
  refine g_get (pc := 108) X inlX8 0 rfl rfl 7 (by decide) mw_4_7 rfl dX8_copyFrom_108 ?_
  refine g_iload_n (pc := 111) X 0 rfl dX8_copyFrom_111 ?_
  refine g_aload_n (pc := 112) X 2 rfl dX8_copyFrom_112 ?_
  refine g_get (pc := 113) X inlX8 8 rfl rfl 7 (by decide) mw_4_7 rfl dX8_copyFrom_113 ?_
  refine g_iload_n (pc := 116) X 0 rfl dX8_copyFrom_116 ?_
  refine g_iald (pc := 117) X 15 rfl (vp_in_iff.mpr (by decide)) dX8_copyFrom_117 ?_
  refine g_iastF (pc := 118) X 7 rfl (vp_in_iff.mpr (by decide)) (ws' := fun f48 => [(d0, .inr (8, [.ref d_papers, .ref d_starts, .ref d_bases, .ref d_hungs, .int 0, .ref d_endPapers, .ref d_endLengths, .ref d_endPhases])), (d_papers, .inl (Z.2.1 0, 6, .inl f21)), (d_starts, .inl (Z.2.1 0, 6, .inl f22)), (d_bases, .inl (Z.2.1 0, 6, .inl f23)), (d_hungs, .inl (Z.2.1 0, 6, .inl f24)), (d_endPapers, .inl (Z.2.1 0, 10, .inl f46)), (d_endLengths, .inl (Z.2.1 0, 10, .inl f47)), (d_endPhases, .inl (Z.2.1 0, 10, .inl f48)), (n0, .inr (8, [.ref n_papers, .ref n_starts, .ref n_bases, .ref n_hungs, .int 0, .ref n_endPapers, .ref n_endLengths, .ref n_endPhases])), (n_papers, .inl (Z.2.1 0, 6, .inl p1)), (n_starts, .inl (Z.2.1 0, 6, .inl p2)), (n_bases, .inl (Z.2.1 0, 6, .inl p3)), (n_hungs, .inl (Z.2.1 0, 6, .inl p4)), (n_endPapers, .inl (Z.2.1 0, 10, .inl p5)), (n_endLengths, .inl (Z.2.1 0, 10, .inl p6)), (n_endPhases, .inl (Z.2.1 0, 10, .inl p7))]) (fun _ => rfl) dX8_copyFrom_118 (fun f48 => ?_)
  refine g_iinc (pc := 119) X 0 rfl (v := 8) (by decide) (by decide) (lv' := [(2, .int 8), (0, .ref d0), (1, .ref n0)]) rfl dX8_copyFrom_119 ?_
  refine g_goto (pc := 122) X 77 (by decide) dX8_copyFrom_122 ?_
  refine g_iload_n (pc := 77) X 0 rfl dX8_copyFrom_77 ?_
  refine g_bipush (pc := 78) X 10 (by decide) dX8_copyFrom_78 ?_
  refine g_icmp_ge (pc := 80) X 125 (by decide) dX8_copyFrom_80 (fun h => absurd h (by decide)) (fun b80 => ?_)
  refine g_aload_n (pc := 83) X 1 rfl dX8_copyFrom_83 ?_
  refine g_get (pc := 84) X inlX8 0 rfl rfl 5 (by decide) mw_4_5 rfl dX8_copyFrom_84 ?_
  refine g_iload_n (pc := 87) X 0 rfl dX8_copyFrom_87 ?_
  refine g_aload_n (pc := 88) X 2 rfl dX8_copyFrom_88 ?_
  refine g_get (pc := 89) X inlX8 8 rfl rfl 5 (by decide) mw_4_5 rfl dX8_copyFrom_89 ?_
  refine g_iload_n (pc := 92) X 0 rfl dX8_copyFrom_92 ?_
  refine g_iald (pc := 93) X 13 rfl (vp_in_iff.mpr (by decide)) dX8_copyFrom_93 ?_
  refine g_iastF (pc := 94) X 5 rfl (vp_in_iff.mpr (by decide)) (ws' := fun f49 => [(d0, .inr (8, [.ref d_papers, .ref d_starts, .ref d_bases, .ref d_hungs, .int 0, .ref d_endPapers, .ref d_endLengths, .ref d_endPhases])), (d_papers, .inl (Z.2.1 0, 6, .inl f21)), (d_starts, .inl (Z.2.1 0, 6, .inl f22)), (d_bases, .inl (Z.2.1 0, 6, .inl f23)), (d_hungs, .inl (Z.2.1 0, 6, .inl f24)), (d_endPapers, .inl (Z.2.1 0, 10, .inl f49)), (d_endLengths, .inl (Z.2.1 0, 10, .inl f47)), (d_endPhases, .inl (Z.2.1 0, 10, .inl f48)), (n0, .inr (8, [.ref n_papers, .ref n_starts, .ref n_bases, .ref n_hungs, .int 0, .ref n_endPapers, .ref n_endLengths, .ref n_endPhases])), (n_papers, .inl (Z.2.1 0, 6, .inl p1)), (n_starts, .inl (Z.2.1 0, 6, .inl p2)), (n_bases, .inl (Z.2.1 0, 6, .inl p3)), (n_hungs, .inl (Z.2.1 0, 6, .inl p4)), (n_endPapers, .inl (Z.2.1 0, 10, .inl p5)), (n_endLengths, .inl (Z.2.1 0, 10, .inl p6)), (n_endPhases, .inl (Z.2.1 0, 10, .inl p7))]) (fun _ => rfl) dX8_copyFrom_94 (fun f49 => ?_)
  refine g_aload_n (pc := 95) X 1 rfl dX8_copyFrom_95 ?_
  refine g_get (pc := 96) X inlX8 0 rfl rfl 6 (by decide) mw_4_6 rfl dX8_copyFrom_96 ?_
  refine g_iload_n (pc := 99) X 0 rfl dX8_copyFrom_99 ?_
  refine g_aload_n (pc := 100) X 2 rfl dX8_copyFrom_100 ?_
  refine g_get (pc := 101) X inlX8 8 rfl rfl 6 (by decide) mw_4_6 rfl dX8_copyFrom_101 ?_
  refine g_iload_n (pc := 104) X 0 rfl dX8_copyFrom_104 ?_
  refine g_iald (pc := 105) X 14 rfl (vp_in_iff.mpr (by decide)) dX8_copyFrom_105 ?_
  refine g_iastF (pc := 106) X 6 rfl (vp_in_iff.mpr (by decide)) (ws' := fun f50 => [(d0, .inr (8, [.ref d_papers, .ref d_starts, .ref d_bases, .ref d_hungs, .int 0, .ref d_endPapers, .ref d_endLengths, .ref d_endPhases])), (d_papers, .inl (Z.2.1 0, 6, .inl f21)), (d_starts, .inl (Z.2.1 0, 6, .inl f22)), (d_bases, .inl (Z.2.1 0, 6, .inl f23)), (d_hungs, .inl (Z.2.1 0, 6, .inl f24)), (d_endPapers, .inl (Z.2.1 0, 10, .inl f49)), (d_endLengths, .inl (Z.2.1 0, 10, .inl f50)), (d_endPhases, .inl (Z.2.1 0, 10, .inl f48)), (n0, .inr (8, [.ref n_papers, .ref n_starts, .ref n_bases, .ref n_hungs, .int 0, .ref n_endPapers, .ref n_endLengths, .ref n_endPhases])), (n_papers, .inl (Z.2.1 0, 6, .inl p1)), (n_starts, .inl (Z.2.1 0, 6, .inl p2)), (n_bases, .inl (Z.2.1 0, 6, .inl p3)), (n_hungs, .inl (Z.2.1 0, 6, .inl p4)), (n_endPapers, .inl (Z.2.1 0, 10, .inl p5)), (n_endLengths, .inl (Z.2.1 0, 10, .inl p6)), (n_endPhases, .inl (Z.2.1 0, 10, .inl p7))]) (fun _ => rfl) dX8_copyFrom_106 (fun f50 => ?_)
  refine g_aload_n (pc := 107) X 1 rfl dX8_copyFrom_107 ?_
  refine g_get (pc := 108) X inlX8 0 rfl rfl 7 (by decide) mw_4_7 rfl dX8_copyFrom_108 ?_
  refine g_iload_n (pc := 111) X 0 rfl dX8_copyFrom_111 ?_
  refine g_aload_n (pc := 112) X 2 rfl dX8_copyFrom_112 ?_
  refine g_get (pc := 113) X inlX8 8 rfl rfl 7 (by decide) mw_4_7 rfl dX8_copyFrom_113 ?_
  refine g_iload_n (pc := 116) X 0 rfl dX8_copyFrom_116 ?_
  refine g_iald (pc := 117) X 15 rfl (vp_in_iff.mpr (by decide)) dX8_copyFrom_117 ?_
  refine g_iastF (pc := 118) X 7 rfl (vp_in_iff.mpr (by decide)) (ws' := fun f51 => [(d0, .inr (8, [.ref d_papers, .ref d_starts, .ref d_bases, .ref d_hungs, .int 0, .ref d_endPapers, .ref d_endLengths, .ref d_endPhases])), (d_papers, .inl (Z.2.1 0, 6, .inl f21)), (d_starts, .inl (Z.2.1 0, 6, .inl f22)), (d_bases, .inl (Z.2.1 0, 6, .inl f23)), (d_hungs, .inl (Z.2.1 0, 6, .inl f24)), (d_endPapers, .inl (Z.2.1 0, 10, .inl f49)), (d_endLengths, .inl (Z.2.1 0, 10, .inl f50)), (d_endPhases, .inl (Z.2.1 0, 10, .inl f51)), (n0, .inr (8, [.ref n_papers, .ref n_starts, .ref n_bases, .ref n_hungs, .int 0, .ref n_endPapers, .ref n_endLengths, .ref n_endPhases])), (n_papers, .inl (Z.2.1 0, 6, .inl p1)), (n_starts, .inl (Z.2.1 0, 6, .inl p2)), (n_bases, .inl (Z.2.1 0, 6, .inl p3)), (n_hungs, .inl (Z.2.1 0, 6, .inl p4)), (n_endPapers, .inl (Z.2.1 0, 10, .inl p5)), (n_endLengths, .inl (Z.2.1 0, 10, .inl p6)), (n_endPhases, .inl (Z.2.1 0, 10, .inl p7))]) (fun _ => rfl) dX8_copyFrom_118 (fun f51 => ?_)
  refine g_iinc (pc := 119) X 0 rfl (v := 9) (by decide) (by decide) (lv' := [(2, .int 9), (0, .ref d0), (1, .ref n0)]) rfl dX8_copyFrom_119 ?_
  refine g_goto (pc := 122) X 77 (by decide) dX8_copyFrom_122 ?_
  refine g_iload_n (pc := 77) X 0 rfl dX8_copyFrom_77 ?_
  refine g_bipush (pc := 78) X 10 (by decide) dX8_copyFrom_78 ?_
  refine g_icmp_ge (pc := 80) X 125 (by decide) dX8_copyFrom_80 (fun h => absurd h (by decide)) (fun b80 => ?_)
  refine g_aload_n (pc := 83) X 1 rfl dX8_copyFrom_83 ?_
  refine g_get (pc := 84) X inlX8 0 rfl rfl 5 (by decide) mw_4_5 rfl dX8_copyFrom_84 ?_
  refine g_iload_n (pc := 87) X 0 rfl dX8_copyFrom_87 ?_
  refine g_aload_n (pc := 88) X 2 rfl dX8_copyFrom_88 ?_
  refine g_get (pc := 89) X inlX8 8 rfl rfl 5 (by decide) mw_4_5 rfl dX8_copyFrom_89 ?_
  refine g_iload_n (pc := 92) X 0 rfl dX8_copyFrom_92 ?_
  refine g_iald (pc := 93) X 13 rfl (vp_in_iff.mpr (by decide)) dX8_copyFrom_93 ?_
  refine g_iastF (pc := 94) X 5 rfl (vp_in_iff.mpr (by decide)) (ws' := fun f52 => [(d0, .inr (8, [.ref d_papers, .ref d_starts, .ref d_bases, .ref d_hungs, .int 0, .ref d_endPapers, .ref d_endLengths, .ref d_endPhases])), (d_papers, .inl (Z.2.1 0, 6, .inl f21)), (d_starts, .inl (Z.2.1 0, 6, .inl f22)), (d_bases, .inl (Z.2.1 0, 6, .inl f23)), (d_hungs, .inl (Z.2.1 0, 6, .inl f24)), (d_endPapers, .inl (Z.2.1 0, 10, .inl f52)), (d_endLengths, .inl (Z.2.1 0, 10, .inl f50)), (d_endPhases, .inl (Z.2.1 0, 10, .inl f51)), (n0, .inr (8, [.ref n_papers, .ref n_starts, .ref n_bases, .ref n_hungs, .int 0, .ref n_endPapers, .ref n_endLengths, .ref n_endPhases])), (n_papers, .inl (Z.2.1 0, 6, .inl p1)), (n_starts, .inl (Z.2.1 0, 6, .inl p2)), (n_bases, .inl (Z.2.1 0, 6, .inl p3)), (n_hungs, .inl (Z.2.1 0, 6, .inl p4)), (n_endPapers, .inl (Z.2.1 0, 10, .inl p5)), (n_endLengths, .inl (Z.2.1 0, 10, .inl p6)), (n_endPhases, .inl (Z.2.1 0, 10, .inl p7))]) (fun _ => rfl) dX8_copyFrom_94 (fun f52 => ?_)
  refine g_aload_n (pc := 95) X 1 rfl dX8_copyFrom_95 ?_
  refine g_get (pc := 96) X inlX8 0 rfl rfl 6 (by decide) mw_4_6 rfl dX8_copyFrom_96 ?_
  refine g_iload_n (pc := 99) X 0 rfl dX8_copyFrom_99 ?_
  refine g_aload_n (pc := 100) X 2 rfl dX8_copyFrom_100 ?_
  refine g_get (pc := 101) X inlX8 8 rfl rfl 6 (by decide) mw_4_6 rfl dX8_copyFrom_101 ?_
  refine g_iload_n (pc := 104) X 0 rfl dX8_copyFrom_104 ?_
  refine g_iald (pc := 105) X 14 rfl (vp_in_iff.mpr (by decide)) dX8_copyFrom_105 ?_
  refine g_iastF (pc := 106) X 6 rfl (vp_in_iff.mpr (by decide)) (ws' := fun f53 => [(d0, .inr (8, [.ref d_papers, .ref d_starts, .ref d_bases, .ref d_hungs, .int 0, .ref d_endPapers, .ref d_endLengths, .ref d_endPhases])), (d_papers, .inl (Z.2.1 0, 6, .inl f21)), (d_starts, .inl (Z.2.1 0, 6, .inl f22)), (d_bases, .inl (Z.2.1 0, 6, .inl f23)), (d_hungs, .inl (Z.2.1 0, 6, .inl f24)), (d_endPapers, .inl (Z.2.1 0, 10, .inl f52)), (d_endLengths, .inl (Z.2.1 0, 10, .inl f53)), (d_endPhases, .inl (Z.2.1 0, 10, .inl f51)), (n0, .inr (8, [.ref n_papers, .ref n_starts, .ref n_bases, .ref n_hungs, .int 0, .ref n_endPapers, .ref n_endLengths, .ref n_endPhases])), (n_papers, .inl (Z.2.1 0, 6, .inl p1)), (n_starts, .inl (Z.2.1 0, 6, .inl p2)), (n_bases, .inl (Z.2.1 0, 6, .inl p3)), (n_hungs, .inl (Z.2.1 0, 6, .inl p4)), (n_endPapers, .inl (Z.2.1 0, 10, .inl p5)), (n_endLengths, .inl (Z.2.1 0, 10, .inl p6)), (n_endPhases, .inl (Z.2.1 0, 10, .inl p7))]) (fun _ => rfl) dX8_copyFrom_106 (fun f53 => ?_)
  refine g_aload_n (pc := 107) X 1 rfl dX8_copyFrom_107 ?_
  refine g_get (pc := 108) X inlX8 0 rfl rfl 7 (by decide) mw_4_7 rfl dX8_copyFrom_108 ?_
  refine g_iload_n (pc := 111) X 0 rfl dX8_copyFrom_111 ?_
  refine g_aload_n (pc := 112) X 2 rfl dX8_copyFrom_112 ?_
  refine g_get (pc := 113) X inlX8 8 rfl rfl 7 (by decide) mw_4_7 rfl dX8_copyFrom_113 ?_
  refine g_iload_n (pc := 116) X 0 rfl dX8_copyFrom_116 ?_
  refine g_iald (pc := 117) X 15 rfl (vp_in_iff.mpr (by decide)) dX8_copyFrom_117 ?_
  refine g_iastF (pc := 118) X 7 rfl (vp_in_iff.mpr (by decide)) (ws' := fun f54 => [(d0, .inr (8, [.ref d_papers, .ref d_starts, .ref d_bases, .ref d_hungs, .int 0, .ref d_endPapers, .ref d_endLengths, .ref d_endPhases])), (d_papers, .inl (Z.2.1 0, 6, .inl f21)), (d_starts, .inl (Z.2.1 0, 6, .inl f22)), (d_bases, .inl (Z.2.1 0, 6, .inl f23)), (d_hungs, .inl (Z.2.1 0, 6, .inl f24)), (d_endPapers, .inl (Z.2.1 0, 10, .inl f52)), (d_endLengths, .inl (Z.2.1 0, 10, .inl f53)), (d_endPhases, .inl (Z.2.1 0, 10, .inl f54)), (n0, .inr (8, [.ref n_papers, .ref n_starts, .ref n_bases, .ref n_hungs, .int 0, .ref n_endPapers, .ref n_endLengths, .ref n_endPhases])), (n_papers, .inl (Z.2.1 0, 6, .inl p1)), (n_starts, .inl (Z.2.1 0, 6, .inl p2)), (n_bases, .inl (Z.2.1 0, 6, .inl p3)), (n_hungs, .inl (Z.2.1 0, 6, .inl p4)), (n_endPapers, .inl (Z.2.1 0, 10, .inl p5)), (n_endLengths, .inl (Z.2.1 0, 10, .inl p6)), (n_endPhases, .inl (Z.2.1 0, 10, .inl p7))]) (fun _ => rfl) dX8_copyFrom_118 (fun f54 => ?_)
  refine g_iinc (pc := 119) X 0 rfl (v := 10) (by decide) (by decide) (lv' := [(2, .int 10), (0, .ref d0), (1, .ref n0)]) rfl dX8_copyFrom_119 ?_
  refine g_goto (pc := 122) X 77 (by decide) dX8_copyFrom_122 ?_
  refine g_iload_n (pc := 77) X 0 rfl dX8_copyFrom_77 ?_
  refine g_bipush (pc := 78) X 10 (by decide) dX8_copyFrom_78 ?_
  refine g_icmp_ge (pc := 80) X 125 (by decide) dX8_copyFrom_80 (fun b80 => ?_) (fun h => absurd (by decide) h)
  exact g_vret (pc := 125) X hA (rfl) (by decide) (by decide) dX8_copyFrom_125

set_option maxHeartbeats 4000000 in
set_option maxRecDepth 100000 in
theorem c_image (l : Launch) (Z : gZ) (h0 : Nat) (a1 : Nat) (a2 : Nat) (a3 : Nat) (a4 : Nat) (a5 : Nat) (a6 : Nat) (a7 : Nat) (a8 : Nat) (a9 : Nat) (a10 : Nat) (a11 : Nat) (a12 : Nat) (n_papers : Nat) (n_starts : Nat) (n_bases : Nat) (n_hungs : Nat) (n_endPapers : Nat) (n_endLengths : Nat) (n_endPhases : Nat) (p1 : Nat → Int32) (p2 : Nat → Int32) (p3 : Nat → Int32) (p4 : Nat → Int32) (p5 : Nat → Int32) (p6 : Nat → Int32) (p7 : Nat → Int32) (x1 : Int32) : Con l Z yX11_image cX11_image 2 (some .boolean) 2 41 8 62 [.ref h0, .int x1] [(h0, .inr (11, [.ref a1, .ref a2, .ref a3, .ref a4, .ref a5, .ref a6, .ref a7, .ref a8, .ref a9, .ref a10, .ref a11, .ref a12, .int 0, .int 0, .int 5])), (a6, .inl (Z.2.1 5, 3, .inr (.inr (.inr (.inr (fun _ => none)))))), (a5, .inr (8, [.ref n_papers, .ref n_starts, .ref n_bases, .ref n_hungs, .int 0, .ref n_endPapers, .ref n_endLengths, .ref n_endPhases])), (n_papers, .inl (Z.2.1 0, 6, .inl p1)), (n_starts, .inl (Z.2.1 0, 6, .inl p2)), (n_bases, .inl (Z.2.1 0, 6, .inl p3)), (n_hungs, .inl (Z.2.1 0, 6, .inl p4)), (n_endPapers, .inl (Z.2.1 0, 10, .inl p5)), (n_endLengths, .inl (Z.2.1 0, 10, .inl p6)), (n_endPhases, .inl (Z.2.1 0, 10, .inl p7))] (fun r w' => r = some (.int (isF 0 x1 2))) := by
  refine enter (by decide) (Nat.le_of_ble_eq_true rfl) ?_
  intro p e s m args below meth c A X hnm hA
  have X : Cx p s m args meth c cX11_image 2 (some .boolean) RX11 Z A := X
  refine g_as (pc' := 0) (lv' := [(0, .ref h0), (1, .int x1)]) (st' := []) (ws' := [(h0, .inr (11, [.ref a1, .ref a2, .ref a3, .ref a4, .ref a5, .ref a6, .ref a7, .ref a8, .ref a9, .ref a10, .ref a11, .ref a12, .int 0, .int 0, .int 5])), (a6, .inl (Z.2.1 5, 3, .inr (.inr (.inr (.inr (fun _ => none)))))), (a5, .inr (8, [.ref n_papers, .ref n_starts, .ref n_bases, .ref n_hungs, .int 0, .ref n_endPapers, .ref n_endLengths, .ref n_endPhases])), (n_papers, .inl (Z.2.1 0, 6, .inl p1)), (n_starts, .inl (Z.2.1 0, 6, .inl p2)), (n_bases, .inl (Z.2.1 0, 6, .inl p3)), (n_hungs, .inl (Z.2.1 0, 6, .inl p4)), (n_endPapers, .inl (Z.2.1 0, 10, .inl p5)), (n_endLengths, .inl (Z.2.1 0, 10, .inl p6)), (n_endPhases, .inl (Z.2.1 0, 10, .inl p7))]) rfl rfl rfl rfl ?_
  refine g_iconst (pc := 0) X 0 (by decide) dX11_image_0 ?_
  refine g_iload_n (pc := 1) X 1 rfl dX11_image_1 ?_
  refine g_iconst (pc := 2) X 2 (by decide) dX11_image_2 ?_
  refine g_callS (pc := 3) X (c_isFrom l Z 0 x1 2) iM_X11_isFrom mw_23_8 mw_11_7 [] [0, 1, 2, 3, 4, 5, 6, 7, 8, 9] rfl (wr := [(h0, .inr (11, [.ref a1, .ref a2, .ref a3, .ref a4, .ref a5, .ref a6, .ref a7, .ref a8, .ref a9, .ref a10, .ref a11, .ref a12, .int 0, .int 0, .int 5])), (a6, .inl (Z.2.1 5, 3, .inr (.inr (.inr (.inr (fun _ => none)))))), (a5, .inr (8, [.ref n_papers, .ref n_starts, .ref n_bases, .ref n_hungs, .int 0, .ref n_endPapers, .ref n_endLengths, .ref n_endPhases])), (n_papers, .inl (Z.2.1 0, 6, .inl p1)), (n_starts, .inl (Z.2.1 0, 6, .inl p2)), (n_bases, .inl (Z.2.1 0, 6, .inl p3)), (n_hungs, .inl (Z.2.1 0, 6, .inl p4)), (n_endPapers, .inl (Z.2.1 0, 10, .inl p5)), (n_endLengths, .inl (Z.2.1 0, 10, .inl p6)), (n_endPhases, .inl (Z.2.1 0, 10, .inl p7))]) rfl (by decide) rfl rfl (Nat.le_of_ble_eq_true rfl) (by decide) dX11_image_3 (fun r w' hpo => ?_)
  obtain ⟨rfl, rfl⟩ := hpo
  refine g_as (pc' := 6) (lv' := [(0, .ref h0), (1, .int x1)]) (st' := [.int (isF 0 x1 2)]) (ws' := [(h0, .inr (11, [.ref a1, .ref a2, .ref a3, .ref a4, .ref a5, .ref a6, .ref a7, .ref a8, .ref a9, .ref a10, .ref a11, .ref a12, .int 0, .int 0, .int 5])), (a6, .inl (Z.2.1 5, 3, .inr (.inr (.inr (.inr (fun _ => none)))))), (a5, .inr (8, [.ref n_papers, .ref n_starts, .ref n_bases, .ref n_hungs, .int 0, .ref n_endPapers, .ref n_endLengths, .ref n_endPhases])), (n_papers, .inl (Z.2.1 0, 6, .inl p1)), (n_starts, .inl (Z.2.1 0, 6, .inl p2)), (n_bases, .inl (Z.2.1 0, 6, .inl p3)), (n_hungs, .inl (Z.2.1 0, 6, .inl p4)), (n_endPapers, .inl (Z.2.1 0, 10, .inl p5)), (n_endLengths, .inl (Z.2.1 0, 10, .inl p6)), (n_endPhases, .inl (Z.2.1 0, 10, .inl p7))]) rfl rfl rfl rfl ?_
  refine g_if_ne (pc := 6) X 11 (by decide) dX11_image_6 (fun b6 => ?_) (fun b6 => ?_)
  · refine g_aload_n (pc := 11) X 0 rfl dX11_image_11 ?_
    refine g_get (pc := 12) X inlX11 0 rfl rfl 5 (by decide) mw_2_4 rfl dX11_image_12 ?_
    refine g_iload_n (pc := 15) X 1 rfl dX11_image_15 ?_
    refine g_aald (pc := 16) X 1 5 rfl rfl (isF_in rfl b6) dX11_image_16 ?_
    refine g_as (pc' := 17) (lv' := [(0, .ref h0), (1, .int x1)]) (st' := [.null]) (ws' := [(h0, .inr (11, [.ref a1, .ref a2, .ref a3, .ref a4, .ref a5, .ref a6, .ref a7, .ref a8, .ref a9, .ref a10, .ref a11, .ref a12, .int 0, .int 0, .int 5])), (a6, .inl (Z.2.1 5, 3, .inr (.inr (.inr (.inr (fun _ => none)))))), (a5, .inr (8, [.ref n_papers, .ref n_starts, .ref n_bases, .ref n_hungs, .int 0, .ref n_endPapers, .ref n_endLengths, .ref n_endPhases])), (n_papers, .inl (Z.2.1 0, 6, .inl p1)), (n_starts, .inl (Z.2.1 0, 6, .inl p2)), (n_bases, .inl (Z.2.1 0, 6, .inl p3)), (n_hungs, .inl (Z.2.1 0, 6, .inl p4)), (n_endPapers, .inl (Z.2.1 0, 10, .inl p5)), (n_endLengths, .inl (Z.2.1 0, 10, .inl p6)), (n_endPhases, .inl (Z.2.1 0, 10, .inl p7))]) rfl rfl rfl rfl ?_
    refine g_ifnonnullN (pc := 17) X dX11_image_17 ?_
    refine g_aload_n (pc := 20) X 0 rfl dX11_image_20 ?_
    refine g_get (pc := 21) X inlX11 0 rfl rfl 5 (by decide) mw_2_4 rfl dX11_image_21 ?_
    refine g_iload_n (pc := 24) X 1 rfl dX11_image_24 ?_
    refine g_new (pc := 25) (ci := 8) X inlX8 tyX8_ok mw_2_0 mw_2_1 mw_2_2 rfl df_X8 (by decide) (by decide) dX11_image_25 (fun q1 => ?_)
    refine g_as (pc' := 28) (lv' := [(0, .ref h0), (1, .int x1)]) (st' := [.ref q1, .int x1, .ref a6]) (ws' := [(h0, .inr (11, [.ref a1, .ref a2, .ref a3, .ref a4, .ref a5, .ref a6, .ref a7, .ref a8, .ref a9, .ref a10, .ref a11, .ref a12, .int 0, .int 0, .int 5])), (a6, .inl (Z.2.1 5, 3, .inr (.inr (.inr (.inr (fun _ => none)))))), (a5, .inr (8, [.ref n_papers, .ref n_starts, .ref n_bases, .ref n_hungs, .int 0, .ref n_endPapers, .ref n_endLengths, .ref n_endPhases])), (n_papers, .inl (Z.2.1 0, 6, .inl p1)), (n_starts, .inl (Z.2.1 0, 6, .inl p2)), (n_bases, .inl (Z.2.1 0, 6, .inl p3)), (n_hungs, .inl (Z.2.1 0, 6, .inl p4)), (n_endPapers, .inl (Z.2.1 0, 10, .inl p5)), (n_endLengths, .inl (Z.2.1 0, 10, .inl p6)), (n_endPhases, .inl (Z.2.1 0, 10, .inl p7)), (q1, .inr (8, [.null, .null, .null, .null, .int 0, .null, .null, .null]))]) rfl rfl rfl rfl ?_
    refine g_dup (pc := 28) X rfl dX11_image_28 ?_
    refine g_callI (pc := 29) X (c_State_init l Z q1) iM_X8_init rfl mw_3_21 mw_3_22 [10] [0, 1, 2, 3, 4, 5, 6, 7, 8, 9] rfl (wr := [(h0, .inr (11, [.ref a1, .ref a2, .ref a3, .ref a4, .ref a5, .ref a6, .ref a7, .ref a8, .ref a9, .ref a10, .ref a11, .ref a12, .int 0, .int 0, .int 5])), (a6, .inl (Z.2.1 5, 3, .inr (.inr (.inr (.inr (fun _ => none)))))), (a5, .inr (8, [.ref n_papers, .ref n_starts, .ref n_bases, .ref n_hungs, .int 0, .ref n_endPapers, .ref n_endLengths, .ref n_endPhases])), (n_papers, .inl (Z.2.1 0, 6, .inl p1)), (n_starts, .inl (Z.2.1 0, 6, .inl p2)), (n_bases, .inl (Z.2.1 0, 6, .inl p3)), (n_hungs, .inl (Z.2.1 0, 6, .inl p4)), (n_endPapers, .inl (Z.2.1 0, 10, .inl p5)), (n_endLengths, .inl (Z.2.1 0, 10, .inl p6)), (n_endPhases, .inl (Z.2.1 0, 10, .inl p7))]) rfl (by decide) rfl rfl (Nat.le_of_ble_eq_true rfl) (by decide) dX11_image_29 (fun r w' hpo => ?_)
    obtain ⟨q2, q3, q4, q5, q6, q7, q8, f9, rfl, rfl⟩ := hpo
    refine g_as (pc' := 32) (lv' := [(0, .ref h0), (1, .int x1)]) (st' := [.ref q1, .int x1, .ref a6]) (ws' := [(h0, .inr (11, [.ref a1, .ref a2, .ref a3, .ref a4, .ref a5, .ref a6, .ref a7, .ref a8, .ref a9, .ref a10, .ref a11, .ref a12, .int 0, .int 0, .int 5])), (a6, .inl (Z.2.1 5, 3, .inr (.inr (.inr (.inr (fun _ => none)))))), (a5, .inr (8, [.ref n_papers, .ref n_starts, .ref n_bases, .ref n_hungs, .int 0, .ref n_endPapers, .ref n_endLengths, .ref n_endPhases])), (n_papers, .inl (Z.2.1 0, 6, .inl p1)), (n_starts, .inl (Z.2.1 0, 6, .inl p2)), (n_bases, .inl (Z.2.1 0, 6, .inl p3)), (n_hungs, .inl (Z.2.1 0, 6, .inl p4)), (n_endPapers, .inl (Z.2.1 0, 10, .inl p5)), (n_endLengths, .inl (Z.2.1 0, 10, .inl p6)), (n_endPhases, .inl (Z.2.1 0, 10, .inl p7)), (q1, .inr (8, [.ref q2, .ref q3, .ref q4, .ref q5, .int 0, .ref q6, .ref q7, .ref q8])), (q2, .inl (Z.2.1 0, 6, .inl f9)), (q3, .inl (Z.2.1 0, 6, .inl (fun _ => 0))), (q4, .inl (Z.2.1 0, 6, .inl (fun _ => 0))), (q5, .inl (Z.2.1 0, 6, .inl (fun _ => 0))), (q6, .inl (Z.2.1 0, 10, .inl (fun _ => 0))), (q7, .inl (Z.2.1 0, 10, .inl (fun _ => 0))), (q8, .inl (Z.2.1 0, 10, .inl (fun _ => 0)))]) rfl rfl rfl rfl ?_
    refine g_aast (pc := 32) X 1 5 10 8 rfl rfl rfl rfl (isF_in rfl b6) (ws' := [(h0, .inr (11, [.ref a1, .ref a2, .ref a3, .ref a4, .ref a5, .ref a6, .ref a7, .ref a8, .ref a9, .ref a10, .ref a11, .ref a12, .int 0, .int 0, .int 5])), (a6, .inl (Z.2.1 5, 3, .inr (.inr (.inr (.inr (va_up (fun _ => none) (Int32.toNatClampNeg x1) (some q1))))))), (a5, .inr (8, [.ref n_papers, .ref n_starts, .ref n_bases, .ref n_hungs, .int 0, .ref n_endPapers, .ref n_endLengths, .ref n_endPhases])), (n_papers, .inl (Z.2.1 0, 6, .inl p1)), (n_starts, .inl (Z.2.1 0, 6, .inl p2)), (n_bases, .inl (Z.2.1 0, 6, .inl p3)), (n_hungs, .inl (Z.2.1 0, 6, .inl p4)), (n_endPapers, .inl (Z.2.1 0, 10, .inl p5)), (n_endLengths, .inl (Z.2.1 0, 10, .inl p6)), (n_endPhases, .inl (Z.2.1 0, 10, .inl p7)), (q1, .inr (8, [.ref q2, .ref q3, .ref q4, .ref q5, .int 0, .ref q6, .ref q7, .ref q8])), (q2, .inl (Z.2.1 0, 6, .inl f9)), (q3, .inl (Z.2.1 0, 6, .inl (fun _ => 0))), (q4, .inl (Z.2.1 0, 6, .inl (fun _ => 0))), (q5, .inl (Z.2.1 0, 6, .inl (fun _ => 0))), (q6, .inl (Z.2.1 0, 10, .inl (fun _ => 0))), (q7, .inl (Z.2.1 0, 10, .inl (fun _ => 0))), (q8, .inl (Z.2.1 0, 10, .inl (fun _ => 0)))]) rfl dX11_image_32 ?_
    refine g_aload_n (pc := 33) X 0 rfl dX11_image_33 ?_
    refine g_get (pc := 34) X inlX11 0 rfl rfl 5 (by decide) mw_2_4 rfl dX11_image_34 ?_
    refine g_iload_n (pc := 37) X 1 rfl dX11_image_37 ?_
    refine g_aald (pc := 38) X 1 5 rfl rfl (isF_in rfl b6) dX11_image_38 ?_
    refine g_as (pc' := 39) (lv' := [(0, .ref h0), (1, .int x1)]) (st' := [.ref q1]) (ws' := [(h0, .inr (11, [.ref a1, .ref a2, .ref a3, .ref a4, .ref a5, .ref a6, .ref a7, .ref a8, .ref a9, .ref a10, .ref a11, .ref a12, .int 0, .int 0, .int 5])), (a6, .inl (Z.2.1 5, 3, .inr (.inr (.inr (.inr (va_up (fun _ => none) (Int32.toNatClampNeg x1) (some q1))))))), (a5, .inr (8, [.ref n_papers, .ref n_starts, .ref n_bases, .ref n_hungs, .int 0, .ref n_endPapers, .ref n_endLengths, .ref n_endPhases])), (n_papers, .inl (Z.2.1 0, 6, .inl p1)), (n_starts, .inl (Z.2.1 0, 6, .inl p2)), (n_bases, .inl (Z.2.1 0, 6, .inl p3)), (n_hungs, .inl (Z.2.1 0, 6, .inl p4)), (n_endPapers, .inl (Z.2.1 0, 10, .inl p5)), (n_endLengths, .inl (Z.2.1 0, 10, .inl p6)), (n_endPhases, .inl (Z.2.1 0, 10, .inl p7)), (q1, .inr (8, [.ref q2, .ref q3, .ref q4, .ref q5, .int 0, .ref q6, .ref q7, .ref q8])), (q2, .inl (Z.2.1 0, 6, .inl f9)), (q3, .inl (Z.2.1 0, 6, .inl (fun _ => 0))), (q4, .inl (Z.2.1 0, 6, .inl (fun _ => 0))), (q5, .inl (Z.2.1 0, 6, .inl (fun _ => 0))), (q6, .inl (Z.2.1 0, 10, .inl (fun _ => 0))), (q7, .inl (Z.2.1 0, 10, .inl (fun _ => 0))), (q8, .inl (Z.2.1 0, 10, .inl (fun _ => 0)))]) rfl rfl (by simp [va_up, va_rf]) rfl ?_
    refine g_aload_n (pc := 39) X 0 rfl dX11_image_39 ?_
    refine g_get (pc := 40) X inlX11 0 rfl rfl 4 (by decide) mw_2_3 rfl dX11_image_40 ?_
    refine g_callV (pc := 43) X (c_copyFrom l Z q1 a5 q2 q3 q4 q5 q6 q7 q8 n_papers n_starts n_bases n_hungs n_endPapers n_endLengths n_endPhases f9 (fun _ => 0) (fun _ => 0) (fun _ => 0) (fun _ => 0) (fun _ => 0) (fun _ => 0) p1 p2 p3 p4 p5 p6 p7) iM_X8_copyFrom mw_55_18 mw_55_19 mw_55_20 10 rfl rfl [10, 11, 12, 13, 14, 15, 16, 17, 2, 3, 4, 5, 6, 7, 8, 9] [0, 1] rfl (wr := [(h0, .inr (11, [.ref a1, .ref a2, .ref a3, .ref a4, .ref a5, .ref a6, .ref a7, .ref a8, .ref a9, .ref a10, .ref a11, .ref a12, .int 0, .int 0, .int 5])), (a6, .inl (Z.2.1 5, 3, .inr (.inr (.inr (.inr (va_up (fun _ => none) (Int32.toNatClampNeg x1) (some q1)))))))]) rfl (by decide) rfl rfl (Nat.le_of_ble_eq_true rfl) (by decide) dX11_image_43 (fun r w' hpo => ?_)
    obtain rfl := hpo
    refine g_left ?_
    refine g_as (pc' := 46) (lv' := [(0, .ref h0), (1, .int x1)]) (st' := []) (ws' := [(h0, .inr (11, [.ref a1, .ref a2, .ref a3, .ref a4, .ref a5, .ref a6, .ref a7, .ref a8, .ref a9, .ref a10, .ref a11, .ref a12, .int 0, .int 0, .int 5])), (a6, .inl (Z.2.1 5, 3, .inr (.inr (.inr (.inr (va_up (fun _ => none) (Int32.toNatClampNeg x1) (some q1)))))))]) rfl rfl rfl rfl ?_
    refine g_iconst (pc := 46) X 1 (by decide) dX11_image_46 ?_
    exact g_zret (pc := 47) X hA (rfl) (by rw [isF_one b6]) (by decide) (by decide) dX11_image_47
  · refine g_iconst (pc := 9) X 0 (by decide) dX11_image_9 ?_
    exact g_zret (pc := 10) X hA (rfl) (by rw [b6]) (by decide) (by decide) dX11_image_10

set_option maxHeartbeats 4000000 in
set_option maxRecDepth 100000 in
theorem c_on (l : Launch) (Z : gZ) (h0 : Nat) (a1 : Nat) (a2 : Nat) (a3 : Nat) (a4 : Nat) (a5 : Nat) (a6 : Nat) (a7 : Nat) (a8 : Nat) (a9 : Nat) (a10 : Nat) (a11 : Nat) (a12 : Nat) (x1 : Int32) : Con l Z yX11_on cX11_on 2 (some .boolean) 1 22 0 0 [.ref h0, .int x1] [(h0, .inr (11, [.ref a1, .ref a2, .ref a3, .ref a4, .ref a5, .ref a6, .ref a7, .ref a8, .ref a9, .ref a10, .ref a11, .ref a12, .int 0, .int 0, .int 5])), (a6, .inl (Z.2.1 5, 3, .inr (.inr (.inr (.inr (fun _ => none))))))] (fun r w' => r = some (.int 0)) := by
  refine enter (by decide) (Nat.le_of_ble_eq_true rfl) ?_
  intro p e s m args below meth c A X hnm hA
  have X : Cx p s m args meth c cX11_on 2 (some .boolean) RX11 Z A := X
  refine g_as (pc' := 0) (lv' := [(0, .ref h0), (1, .int x1)]) (st' := []) (ws' := [(h0, .inr (11, [.ref a1, .ref a2, .ref a3, .ref a4, .ref a5, .ref a6, .ref a7, .ref a8, .ref a9, .ref a10, .ref a11, .ref a12, .int 0, .int 0, .int 5])), (a6, .inl (Z.2.1 5, 3, .inr (.inr (.inr (.inr (fun _ => none))))))]) rfl rfl rfl rfl ?_
  refine g_iconst (pc := 0) X 0 (by decide) dX11_on_0 ?_
  refine g_iload_n (pc := 1) X 1 rfl dX11_on_1 ?_
  refine g_iconst (pc := 2) X 2 (by decide) dX11_on_2 ?_
  refine g_callS (pc := 3) X (c_isFrom l Z 0 x1 2) iM_X11_isFrom mw_23_8 mw_11_7 [] [0, 1] rfl (wr := [(h0, .inr (11, [.ref a1, .ref a2, .ref a3, .ref a4, .ref a5, .ref a6, .ref a7, .ref a8, .ref a9, .ref a10, .ref a11, .ref a12, .int 0, .int 0, .int 5])), (a6, .inl (Z.2.1 5, 3, .inr (.inr (.inr (.inr (fun _ => none))))))]) rfl (by decide) rfl rfl (Nat.le_of_ble_eq_true rfl) (by decide) dX11_on_3 (fun r w' hpo => ?_)
  obtain ⟨rfl, rfl⟩ := hpo
  refine g_as (pc' := 6) (lv' := [(0, .ref h0), (1, .int x1)]) (st' := [.int (isF 0 x1 2)]) (ws' := [(h0, .inr (11, [.ref a1, .ref a2, .ref a3, .ref a4, .ref a5, .ref a6, .ref a7, .ref a8, .ref a9, .ref a10, .ref a11, .ref a12, .int 0, .int 0, .int 5])), (a6, .inl (Z.2.1 5, 3, .inr (.inr (.inr (.inr (fun _ => none))))))]) rfl rfl rfl rfl ?_
  refine g_if_eq (pc := 6) X 18 (by decide) dX11_on_6 (fun b6 => ?_) (fun b6 => ?_)
  · refine g_iconst (pc := 18) X 0 (by decide) dX11_on_18 ?_
    exact g_zret (pc := 19) X hA (rfl) (rfl) (by decide) (by decide) dX11_on_19
  · refine g_aload_n (pc := 9) X 0 rfl dX11_on_9 ?_
    refine g_get (pc := 10) X inlX11 0 rfl rfl 5 (by decide) mw_2_4 rfl dX11_on_10 ?_
    refine g_iload_n (pc := 13) X 1 rfl dX11_on_13 ?_
    refine g_aald (pc := 14) X 1 5 rfl rfl (isF_in rfl b6) dX11_on_14 ?_
    refine g_as (pc' := 15) (lv' := [(0, .ref h0), (1, .int x1)]) (st' := [.null]) (ws' := [(h0, .inr (11, [.ref a1, .ref a2, .ref a3, .ref a4, .ref a5, .ref a6, .ref a7, .ref a8, .ref a9, .ref a10, .ref a11, .ref a12, .int 0, .int 0, .int 5])), (a6, .inl (Z.2.1 5, 3, .inr (.inr (.inr (.inr (fun _ => none))))))]) rfl rfl rfl rfl ?_
    refine g_ifnonnullN (pc := 15) X dX11_on_15 ?_
    refine g_iconst (pc := 18) X 0 (by decide) dX11_on_18 ?_
    exact g_zret (pc := 19) X hA (rfl) (rfl) (by decide) (by decide) dX11_on_19

set_option maxHeartbeats 4000000 in
set_option maxRecDepth 100000 in
theorem c_count (l : Launch) (Z : gZ) (h0 : Nat) (a1 : Nat) (a2 : Nat) (a3 : Nat) (a4 : Nat) (a5 : Nat) (a6 : Nat) (a7 : Nat) (a8 : Nat) (a9 : Nat) (a10 : Nat) (a11 : Nat) (a12 : Nat) (t_bytes : Nat) (t_kinds : Nat) (t_places : Nat) (t_values : Nat) (n_papers : Nat) (n_starts : Nat) (n_bases : Nat) (n_hungs : Nat) (n_endPapers : Nat) (n_endLengths : Nat) (n_endPhases : Nat) (s_papers : Nat) (s_sizes : Nat) (s_needs : Nat) (s_hidden : Nat) (s_given : Nat) (s_chosen : Nat) (s_picked : Nat) (x1 : Int32) : Con l Z yX11_count cX11_count 2 (some .int) 0 0 0 0 [.ref h0, .int x1] [(h0, .inr (11, [.ref a1, .ref a2, .ref a3, .ref a4, .ref a5, .ref a6, .ref a7, .ref a8, .ref a9, .ref a10, .ref a11, .ref a12, .int 0, .int 0, .int 5])), (a1, .inr (9, [.ref t_bytes, .int 0, .int 0, .ref t_kinds, .ref t_places, .ref t_values])), (a5, .inr (8, [.ref n_papers, .ref n_starts, .ref n_bases, .ref n_hungs, .int 0, .ref n_endPapers, .ref n_endLengths, .ref n_endPhases])), (a10, .inr (7, [.int 0, .ref s_papers, .ref s_sizes, .null, .int 0, .int 0, .ref s_needs, .ref s_hidden, .ref s_given, .ref s_chosen, .ref s_picked, .int 0]))] (fun r w' => r = some (.int (cntF x1))) := by
  refine enter (by decide) (Nat.le_of_ble_eq_true rfl) ?_
  intro p e s m args below meth c A X hnm hA
  have X : Cx p s m args meth c cX11_count 2 (some .int) RX11 Z A := X
  refine g_as (pc' := 0) (lv' := [(0, .ref h0), (1, .int x1)]) (st' := []) (ws' := [(h0, .inr (11, [.ref a1, .ref a2, .ref a3, .ref a4, .ref a5, .ref a6, .ref a7, .ref a8, .ref a9, .ref a10, .ref a11, .ref a12, .int 0, .int 0, .int 5])), (a1, .inr (9, [.ref t_bytes, .int 0, .int 0, .ref t_kinds, .ref t_places, .ref t_values])), (a5, .inr (8, [.ref n_papers, .ref n_starts, .ref n_bases, .ref n_hungs, .int 0, .ref n_endPapers, .ref n_endLengths, .ref n_endPhases])), (a10, .inr (7, [.int 0, .ref s_papers, .ref s_sizes, .null, .int 0, .int 0, .ref s_needs, .ref s_hidden, .ref s_given, .ref s_chosen, .ref s_picked, .int 0]))]) rfl rfl rfl rfl ?_
  refine g_iload_n (pc := 0) X 1 rfl dX11_count_0 ?_
  by_cases b1 : (x1).toInt < 0 ∨ 5 < (x1).toInt
  · refine g_tableOut (pc := 1) X 79 b1 (by decide) dX11_count_1 ?_
    refine g_iconst (pc := 79) X (-1) (by decide) dX11_count_79 ?_
    exact g_iret (pc := 80) X hA (congrArg (fun z => some (Value.int z)) (cntF_out b1)) (by decide) (by decide) dX11_count_80
  · obtain b1_0 | b1_1 | b1_2 | b1_3 | b1_4 | b1_5 := (show (x1).toInt = 0 ∨ (x1).toInt = 1 ∨ (x1).toInt = 2 ∨ (x1).toInt = 3 ∨ (x1).toInt = 4 ∨ (x1).toInt = 5 by omega)
    · refine g_tableIn (pc := 1) X 40 (by omega) (by omega) (by rw [b1_0]; rfl) (by decide) dX11_count_1 ?_
      refine g_aload_n (pc := 40) X 0 rfl dX11_count_40 ?_
      refine g_get (pc := 41) X inlX11 0 rfl rfl 12 (by decide) mw_3_4 rfl dX11_count_41 ?_
      exact g_iret (pc := 44) X hA (congrArg (fun z => some (Value.int z)) (cntF_in b1_0 (by decide) (by decide))) (by decide) (by decide) dX11_count_44
    · refine g_tableIn (pc := 1) X 45 (by omega) (by omega) (by rw [b1_1]; rfl) (by decide) dX11_count_1 ?_
      refine g_aload_n (pc := 45) X 0 rfl dX11_count_45 ?_
      refine g_get (pc := 46) X inlX11 0 rfl rfl 13 (by decide) mw_3_5 rfl dX11_count_46 ?_
      exact g_iret (pc := 49) X hA (congrArg (fun z => some (Value.int z)) (cntF_in b1_1 (by decide) (by decide))) (by decide) (by decide) dX11_count_49
    · refine g_tableIn (pc := 1) X 50 (by omega) (by omega) (by rw [b1_2]; rfl) (by decide) dX11_count_1 ?_
      refine g_aload_n (pc := 50) X 0 rfl dX11_count_50 ?_
      refine g_get (pc := 51) X inlX11 0 rfl rfl 14 (by decide) mw_3_6 rfl dX11_count_51 ?_
      exact g_iret (pc := 54) X hA (congrArg (fun z => some (Value.int z)) (cntF_2 b1_2)) (by decide) (by decide) dX11_count_54
    · refine g_tableIn (pc := 1) X 55 (by omega) (by omega) (by rw [b1_3]; rfl) (by decide) dX11_count_1 ?_
      refine g_aload_n (pc := 55) X 0 rfl dX11_count_55 ?_
      refine g_get (pc := 56) X inlX11 0 rfl rfl 9 (by decide) mw_2_20 rfl dX11_count_56 ?_
      refine g_get (pc := 59) X inlX7 3 rfl rfl 0 (by decide) mw_56_14 rfl dX11_count_59 ?_
      exact g_iret (pc := 62) X hA (congrArg (fun z => some (Value.int z)) (cntF_in b1_3 (by decide) (by decide))) (by decide) (by decide) dX11_count_62
    · refine g_tableIn (pc := 1) X 63 (by omega) (by omega) (by rw [b1_4]; rfl) (by decide) dX11_count_1 ?_
      refine g_aload_n (pc := 63) X 0 rfl dX11_count_63 ?_
      refine g_get (pc := 64) X inlX11 0 rfl rfl 4 (by decide) mw_2_3 rfl dX11_count_64 ?_
      refine g_get (pc := 67) X inlX8 2 rfl rfl 4 (by decide) mw_56_15 rfl dX11_count_67 ?_
      exact g_iret (pc := 70) X hA (congrArg (fun z => some (Value.int z)) (cntF_in b1_4 (by decide) (by decide))) (by decide) (by decide) dX11_count_70
    · refine g_tableIn (pc := 1) X 71 (by omega) (by omega) (by rw [b1_5]; rfl) (by decide) dX11_count_1 ?_
      refine g_aload_n (pc := 71) X 0 rfl dX11_count_71 ?_
      refine g_get (pc := 72) X inlX11 0 rfl rfl 0 (by decide) mw_1_15 rfl dX11_count_72 ?_
      refine g_get (pc := 75) X inlX9 1 rfl rfl 1 (by decide) mw_10_3 rfl dX11_count_75 ?_
      exact g_iret (pc := 78) X hA (congrArg (fun z => some (Value.int z)) (cntF_in b1_5 (by decide) (by decide))) (by decide) (by decide) dX11_count_78
