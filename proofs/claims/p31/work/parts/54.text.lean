set_option maxHeartbeats 4000000 in
set_option maxRecDepth 100000 in
theorem k_X9_hasSpaceFor (l : Launch) (Z : gZ) (t0 : Nat) (t_bytes : Nat) (t_kinds : Nat) (t_places : Nat) (t_values : Nat) (mo : Int) (ts : Int) (tk : Int) (b_mo : (-2147483648) ≤ mo ∧ mo ≤ 2147483647) (b_ts : 0 ≤ ts ∧ ts ≤ 400) (b_tk : 0 ≤ tk ∧ tk ≤ 401) : Con l Z yX9_hasSpaceFor cX9_hasSpaceFor 2 (some .boolean) 0 0 0 0 [.ref t0, .int (iI mo)] [cO_riirrr t0 9 t_bytes ts tk t_kinds t_places t_values] (fun r w' => (r = some (.int (iI (bI (0 ≤ mo ∧ mo ≤ 400 - ts))))) ∧ (w' = [cO_riirrr t0 9 t_bytes ts tk t_kinds t_places t_values])) := by
  refine enter (by decide) (Nat.le_of_ble_eq_true rfl) ?_
  intro p e s m args below meth c A X hnm hA
  have X : Cx p s m args meth c cX9_hasSpaceFor 2 (some .boolean) RX9 Z A := X
  refine g_as (pc' := 0) (lv' := [(0, .ref t0), (1, .int (iI mo))]) (st' := []) (ws' := [cO_riirrr t0 9 t_bytes ts tk t_kinds t_places t_values]) rfl rfl rfl rfl ?_
  refine g_iload_n (pc := 0) X 1 rfl dX9_hasSpaceFor_0 ?_
  refine g_if_ltI (pc := 1) X 20 (by decide) b_mo dX9_hasSpaceFor_1 (fun c1 => ?_) (fun c1 => ?_)
  · refine g_iconst (pc := 20) X (iI 0) (by rfl) dX9_hasSpaceFor_20 ?_
    exact g_zret (pc := 21) X hA (rfl) (⟨congrArg (fun z => some (Value.int (iI z))) ((bI_f (by omega)).symm), rfl⟩) (by decide) (by decide) dX9_hasSpaceFor_21
  · refine g_iload_n (pc := 4) X 1 rfl dX9_hasSpaceFor_4 ?_
    refine g_sipush (pc := 5) X (iI 400) (by decide) dX9_hasSpaceFor_5 ?_
    refine g_aload_n (pc := 8) X 0 rfl dX9_hasSpaceFor_8 ?_
    refine g_get (pc := 9) X inlX9 0 rfl rfl 1 (by decide) mw_10_8 rfl dX9_hasSpaceFor_9 ?_
    refine g_isubI (pc := 12) X dX9_hasSpaceFor_12 ?_
    refine g_icmp_gtI (pc := 13) X 20 (by decide) b_mo ⟨by omega, by omega⟩ dX9_hasSpaceFor_13 (fun c13 => ?_) (fun c13 => ?_)
    · refine g_iconst (pc := 20) X (iI 0) (by rfl) dX9_hasSpaceFor_20 ?_
      exact g_zret (pc := 21) X hA (rfl) (⟨congrArg (fun z => some (Value.int (iI z))) ((bI_f (by omega)).symm), rfl⟩) (by decide) (by decide) dX9_hasSpaceFor_21
    · refine g_iconst (pc := 16) X (iI 1) (by rfl) dX9_hasSpaceFor_16 ?_
      refine g_goto (pc := 17) X 21 (by decide) dX9_hasSpaceFor_17 ?_
      exact g_zret (pc := 21) X hA (rfl) (⟨congrArg (fun z => some (Value.int (iI z))) ((bI_t (by omega)).symm), rfl⟩) (by decide) (by decide) dX9_hasSpaceFor_21

set_option maxHeartbeats 4000000 in
set_option maxRecDepth 100000 in
theorem k_X9_shorten (l : Launch) (Z : gZ) (t0 : Nat) (t_bytes : Nat) (t_kinds : Nat) (t_places : Nat) (t_values : Nat) (le : Int) (ts : Int) (tk : Int) (b_le : (-2147483648) ≤ le ∧ le ≤ 2147483647) (b_ts : 0 ≤ ts ∧ ts ≤ 400) (b_tk : 0 ≤ tk ∧ tk ≤ 401) : Con l Z yX9_shorten cX9_shorten 2 (some .boolean) 1 22 0 0 [.ref t0, .int (iI le)] [cO_riirrr t0 9 t_bytes ts tk t_kinds t_places t_values] (fun r w' => ((r = some (.int (iI 0))) ∧ (w' = [cO_riirrr t0 9 t_bytes ts tk t_kinds t_places t_values]) ∧ (¬ (0 ≤ le ∧ le ≤ ts))) ∨ ((r = some (.int (iI 1))) ∧ (w' = [cO_riirrr t0 9 t_bytes le tk t_kinds t_places t_values]) ∧ (0 ≤ le ∧ le ≤ ts))) := by
  refine enter (by decide) (Nat.le_of_ble_eq_true rfl) ?_
  intro p e s m args below meth c A X hnm hA
  have X : Cx p s m args meth c cX9_shorten 2 (some .boolean) RX9 Z A := X
  refine g_as (pc' := 0) (lv' := [(0, .ref t0), (1, .int (iI le))]) (st' := []) (ws' := [cO_riirrr t0 9 t_bytes ts tk t_kinds t_places t_values]) rfl rfl rfl rfl ?_
  refine g_iconst (pc := 0) X (iI 0) (by rfl) dX9_shorten_0 ?_
  refine g_iload_n (pc := 1) X 1 rfl dX9_shorten_1 ?_
  refine g_aload_n (pc := 2) X 0 rfl dX9_shorten_2 ?_
  refine g_get (pc := 3) X inlX9 0 rfl rfl 1 (by decide) mw_10_8 rfl dX9_shorten_3 ?_
  refine g_callSN (pc := 6) X (k_X11_isFrom l Z 0 le ts (by decide) b_le (by omega)) iM_X11_isFrom (by decide) mw_11_7 [] [0] rfl (wr := [cO_riirrr t0 9 t_bytes ts tk t_kinds t_places t_values]) rfl (by decide) rfl rfl (Nat.le_of_ble_eq_true rfl) (by decide) dX9_shorten_6 (fun r w' hpo => ?_)
  obtain ⟨rfl, rfl⟩ := hpo
  refine g_as (pc' := 9) (lv' := [(0, .ref t0), (1, .int (iI le))]) (st' := [.int (iI (bI (0 ≤ le ∧ le ≤ ts)))]) (ws' := [cO_riirrr t0 9 t_bytes ts tk t_kinds t_places t_values]) rfl rfl rfl rfl ?_
  refine g_if_neB (pc := 9) X 14 (by decide) dX9_shorten_9 (fun c9 => ?_) (fun c9 => ?_)
  · refine g_aload_n (pc := 14) X 0 rfl dX9_shorten_14 ?_
    refine g_iload_n (pc := 15) X 1 rfl dX9_shorten_15 ?_
    refine g_put (pc := 16) X inlX9 tyX9_ok nmX9 0 rfl rfl 1 (by decide) mw_10_8 rfl rfl rfl (Nat.le_of_ble_eq_true rfl) (ws' := [cO_riirrr t0 9 t_bytes le tk t_kinds t_places t_values]) rfl dX9_shorten_16 ?_
    refine g_iconst (pc := 19) X (iI 1) (by rfl) dX9_shorten_19 ?_
    exact g_zret (pc := 20) X hA (rfl) (Or.inr (⟨rfl, rfl, (by omega)⟩)) (by decide) (by decide) dX9_shorten_20
  · refine g_iconst (pc := 12) X (iI 0) (by rfl) dX9_shorten_12 ?_
    exact g_zret (pc := 13) X hA (rfl) (Or.inl (⟨rfl, rfl, (by omega)⟩)) (by decide) (by decide) dX9_shorten_13
