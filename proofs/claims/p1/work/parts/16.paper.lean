set_option maxHeartbeats 4000000 in
set_option maxRecDepth 100000 in
theorem c_canBe (l : Launch) (Z : gZ) (x1 : Int32) (x2 : Int32) (x3 : Int32) (x4 : Int32) (x5 : Int32) : Con l Z yX3_canBe cX3_canBe 5 (some .boolean) 1 22 0 0 [.int x1, .int x2, .int x3, .int x4, .int x5] [] (fun r w' => r = some (.int (canB x1 x2 x3 x4 x5)) ∧ w' = []) := by
  refine enter (by decide) (Nat.le_of_ble_eq_true rfl) ?_
  intro p e s m args below meth c A X hnm hA
  have X : Cx p s m args meth c cX3_canBe 5 (some .boolean) RX3 Z A := X
  refine g_as (pc' := 0) (lv' := [(0, .int x1), (1, .int x2), (2, .int x3), (3, .int x4), (4, .int x5)]) (st' := []) (ws' := []) rfl rfl rfl rfl ?_
  refine g_bipush (pc := 0) X 20 (by decide) dX3_canBe_0 ?_
  refine g_iload_n (pc := 2) X 0 rfl dX3_canBe_2 ?_
  refine g_bipush (pc := 3) X 120 (by decide) dX3_canBe_3 ?_
  refine g_callSN (pc := 5) X (c_isFrom l Z 20 x1 120) iM_X11_isFrom (by decide) mw_11_7 [] [] rfl (wr := []) rfl (by decide) rfl rfl (Nat.le_of_ble_eq_true rfl) (by decide) dX3_canBe_5 (fun r w' hpo => ?_)
  obtain ⟨rfl, rfl⟩ := hpo
  refine g_as (pc' := 8) (lv' := [(0, .int x1), (1, .int x2), (2, .int x3), (3, .int x4), (4, .int x5)]) (st' := [.int (isF 20 x1 120)]) (ws' := []) rfl rfl rfl rfl ?_
  refine g_if_eq (pc := 8) X 78 (by decide) dX3_canBe_8 (fun b8 => ?_) (fun b8 => ?_)
  · refine g_iconst (pc := 78) X 0 (by decide) dX3_canBe_78 ?_
    exact g_zret (pc := 79) X hA (rfl) (⟨congrArg (fun z => some (Value.int z)) (by simp [canB, b8]), rfl⟩) (by decide) (by decide) dX3_canBe_79
  · refine g_bipush (pc := 11) X 10 (by decide) dX3_canBe_11 ?_
    refine g_iload_n (pc := 13) X 1 rfl dX3_canBe_13 ?_
    refine g_bipush (pc := 14) X 120 (by decide) dX3_canBe_14 ?_
    refine g_callSN (pc := 16) X (c_isFrom l Z 10 x2 120) iM_X11_isFrom (by decide) mw_11_7 [] [] rfl (wr := []) rfl (by decide) rfl rfl (Nat.le_of_ble_eq_true rfl) (by decide) dX3_canBe_16 (fun r w' hpo => ?_)
    obtain ⟨rfl, rfl⟩ := hpo
    refine g_as (pc' := 19) (lv' := [(0, .int x1), (1, .int x2), (2, .int x3), (3, .int x4), (4, .int x5)]) (st' := [.int (isF 10 x2 120)]) (ws' := []) rfl rfl rfl rfl ?_
    refine g_if_eq (pc := 19) X 78 (by decide) dX3_canBe_19 (fun b19 => ?_) (fun b19 => ?_)
    · refine g_iconst (pc := 78) X 0 (by decide) dX3_canBe_78 ?_
      exact g_zret (pc := 79) X hA (rfl) (⟨congrArg (fun z => some (Value.int z)) (by simp [canB, b8, b19]), rfl⟩) (by decide) (by decide) dX3_canBe_79
    · refine g_iconst (pc := 22) X 0 (by decide) dX3_canBe_22 ?_
      refine g_iload_n (pc := 23) X 2 rfl dX3_canBe_23 ?_
      refine g_iconst (pc := 24) X 2 (by decide) dX3_canBe_24 ?_
      refine g_callSN (pc := 25) X (c_isFrom l Z 0 x3 2) iM_X11_isFrom (by decide) mw_11_7 [] [] rfl (wr := []) rfl (by decide) rfl rfl (Nat.le_of_ble_eq_true rfl) (by decide) dX3_canBe_25 (fun r w' hpo => ?_)
      obtain ⟨rfl, rfl⟩ := hpo
      refine g_as (pc' := 28) (lv' := [(0, .int x1), (1, .int x2), (2, .int x3), (3, .int x4), (4, .int x5)]) (st' := [.int (isF 0 x3 2)]) (ws' := []) rfl rfl rfl rfl ?_
      refine g_if_eq (pc := 28) X 78 (by decide) dX3_canBe_28 (fun b28 => ?_) (fun b28 => ?_)
      · refine g_iconst (pc := 78) X 0 (by decide) dX3_canBe_78 ?_
        exact g_zret (pc := 79) X hA (rfl) (⟨congrArg (fun z => some (Value.int z)) (by simp [canB, b8, b19, b28]), rfl⟩) (by decide) (by decide) dX3_canBe_79
      · refine g_sipush (pc := 31) X 300 (by decide) dX3_canBe_31 ?_
        refine g_iload_n (pc := 34) X 3 rfl dX3_canBe_34 ?_
        refine g_sipush (pc := 35) X 2000 (by decide) dX3_canBe_35 ?_
        refine g_callSN (pc := 38) X (c_isFrom l Z 300 x4 2000) iM_X11_isFrom (by decide) mw_11_7 [] [] rfl (wr := []) rfl (by decide) rfl rfl (Nat.le_of_ble_eq_true rfl) (by decide) dX3_canBe_38 (fun r w' hpo => ?_)
        obtain ⟨rfl, rfl⟩ := hpo
        refine g_as (pc' := 41) (lv' := [(0, .int x1), (1, .int x2), (2, .int x3), (3, .int x4), (4, .int x5)]) (st' := [.int (isF 300 x4 2000)]) (ws' := []) rfl rfl rfl rfl ?_
        refine g_if_eq (pc := 41) X 78 (by decide) dX3_canBe_41 (fun b41 => ?_) (fun b41 => ?_)
        · refine g_iconst (pc := 78) X 0 (by decide) dX3_canBe_78 ?_
          exact g_zret (pc := 79) X hA (rfl) (⟨congrArg (fun z => some (Value.int z)) (by simp [canB, b8, b19, b28, b41]), rfl⟩) (by decide) (by decide) dX3_canBe_79
        · refine g_iconst (pc := 44) X 0 (by decide) dX3_canBe_44 ?_
          refine g_iload (pc := 45) X 4 rfl dX3_canBe_45 ?_
          refine g_sipush (pc := 47) X 1000 (by decide) dX3_canBe_47 ?_
          refine g_idiv (pc := 50) X (by decide) dX3_canBe_50 ?_
          refine g_iload_n (pc := 51) X 1 rfl dX3_canBe_51 ?_
          refine g_iconst (pc := 52) X 1 (by decide) dX3_canBe_52 ?_
          refine g_isub (pc := 53) X dX3_canBe_53 ?_
          refine g_callSN (pc := 54) X (c_isFrom l Z 0 (x5 / 1000) (x2 - 1)) iM_X11_isFrom (by decide) mw_11_7 [] [] rfl (wr := []) rfl (by decide) rfl rfl (Nat.le_of_ble_eq_true rfl) (by decide) dX3_canBe_54 (fun r w' hpo => ?_)
          obtain ⟨rfl, rfl⟩ := hpo
          refine g_as (pc' := 57) (lv' := [(0, .int x1), (1, .int x2), (2, .int x3), (3, .int x4), (4, .int x5)]) (st' := [.int (isF 0 (x5 / 1000) (x2 - 1))]) (ws' := []) rfl rfl rfl rfl ?_
          refine g_if_eq (pc := 57) X 78 (by decide) dX3_canBe_57 (fun b57 => ?_) (fun b57 => ?_)
          · refine g_iconst (pc := 78) X 0 (by decide) dX3_canBe_78 ?_
            exact g_zret (pc := 79) X hA (rfl) (⟨congrArg (fun z => some (Value.int z)) (by simp [canB, b8, b19, b28, b41, b57]), rfl⟩) (by decide) (by decide) dX3_canBe_79
          · refine g_iconst (pc := 60) X 1 (by decide) dX3_canBe_60 ?_
            refine g_iload (pc := 61) X 4 rfl dX3_canBe_61 ?_
            refine g_sipush (pc := 63) X 1000 (by decide) dX3_canBe_63 ?_
            refine g_irem (pc := 66) X (by decide) dX3_canBe_66 ?_
            refine g_iload_n (pc := 67) X 1 rfl dX3_canBe_67 ?_
            refine g_callSN (pc := 68) X (c_isFrom l Z 1 (x5 - x5 / 1000 * 1000) x2) iM_X11_isFrom (by decide) mw_11_7 [] [] rfl (wr := []) rfl (by decide) rfl rfl (Nat.le_of_ble_eq_true rfl) (by decide) dX3_canBe_68 (fun r w' hpo => ?_)
            obtain ⟨rfl, rfl⟩ := hpo
            refine g_as (pc' := 71) (lv' := [(0, .int x1), (1, .int x2), (2, .int x3), (3, .int x4), (4, .int x5)]) (st' := [.int (isF 1 (x5 - x5 / 1000 * 1000) x2)]) (ws' := []) rfl rfl rfl rfl ?_
            refine g_if_eq (pc := 71) X 78 (by decide) dX3_canBe_71 (fun b71 => ?_) (fun b71 => ?_)
            · refine g_iconst (pc := 78) X 0 (by decide) dX3_canBe_78 ?_
              exact g_zret (pc := 79) X hA (rfl) (⟨congrArg (fun z => some (Value.int z)) (by simp [canB, b8, b19, b28, b41, b57, b71]), rfl⟩) (by decide) (by decide) dX3_canBe_79
            · refine g_iconst (pc := 74) X 1 (by decide) dX3_canBe_74 ?_
              refine g_goto (pc := 75) X 79 (by decide) dX3_canBe_75 ?_
              exact g_zret (pc := 79) X hA (rfl) (⟨congrArg (fun z => some (Value.int z)) (by simp [canB, b8, b19, b28, b41, b57, b71]), rfl⟩) (by decide) (by decide) dX3_canBe_79

set_option maxHeartbeats 4000000 in
set_option maxRecDepth 100000 in
theorem c_Paper_init (l : Launch) (Z : gZ) (h0 : Nat) (x1 : Int32) (x2 : Int32) (x3 : Int32) (x4 : Int32) (x5 : Int32) : Con l Z yX3_init cX3_init 6 none 1 20 0 0 [.ref h0, .int x1, .int x2, .int x3, .int x4, .int x5] [(h0, .inr (3, [.int 0, .int 0, .int 0, .int 0, .int 0, .int 0]))] (fun r w' => r = none ∧ w' = [(h0, .inr (3, [.int x1, .int x2, .int x3, .int x4, .int (x5 / 1000), .int (x5 - x5 / 1000 * 1000)]))]) := by
  refine enter (by decide) (Nat.le_of_ble_eq_true rfl) ?_
  intro p e s m args below meth c A X hnm hA
  have X : Cx p s m args meth c cX3_init 6 none RX3 Z A := X
  refine g_as (pc' := 0) (lv' := [(0, .ref h0), (1, .int x1), (2, .int x2), (3, .int x3), (4, .int x4), (5, .int x5)]) (st' := []) (ws' := [(h0, .inr (3, [.int 0, .int 0, .int 0, .int 0, .int 0, .int 0]))]) rfl rfl rfl rfl ?_
  refine g_aload_n (pc := 0) X 0 rfl dX3_init_0 ?_
  refine g_objInit (pc := 1) X mw_31_9 mw_1_10 mw_1_11 (by decide) (Nat.le_of_ble_eq_true rfl) dX3_init_1 ?_
  refine g_aload_n (pc := 4) X 0 rfl dX3_init_4 ?_
  refine g_iload_n (pc := 5) X 1 rfl dX3_init_5 ?_
  refine g_putF (pc := 6) X hnm inlX3 tyX3_ok nmX3 0 rfl rfl 0 (by decide) mw_24_14 rfl rfl rfl rfl (Nat.le_of_ble_eq_true rfl) (ws' := [(h0, .inr (3, [.int x1, .int 0, .int 0, .int 0, .int 0, .int 0]))]) rfl dX3_init_6 ?_
  refine g_aload_n (pc := 9) X 0 rfl dX3_init_9 ?_
  refine g_iload_n (pc := 10) X 2 rfl dX3_init_10 ?_
  refine g_putF (pc := 11) X hnm inlX3 tyX3_ok nmX3 0 rfl rfl 1 (by decide) mw_26_23 rfl rfl rfl rfl (Nat.le_of_ble_eq_true rfl) (ws' := [(h0, .inr (3, [.int x1, .int x2, .int 0, .int 0, .int 0, .int 0]))]) rfl dX3_init_11 ?_
  refine g_aload_n (pc := 14) X 0 rfl dX3_init_14 ?_
  refine g_iload_n (pc := 15) X 3 rfl dX3_init_15 ?_
  refine g_putF (pc := 16) X hnm inlX3 tyX3_ok nmX3 0 rfl rfl 2 (by decide) mw_26_22 rfl rfl rfl rfl (Nat.le_of_ble_eq_true rfl) (ws' := [(h0, .inr (3, [.int x1, .int x2, .int x3, .int 0, .int 0, .int 0]))]) rfl dX3_init_16 ?_
  refine g_aload_n (pc := 19) X 0 rfl dX3_init_19 ?_
  refine g_iload (pc := 20) X 4 rfl dX3_init_20 ?_
  refine g_putF (pc := 22) X hnm inlX3 tyX3_ok nmX3 0 rfl rfl 3 (by decide) mw_31_10 rfl rfl rfl rfl (Nat.le_of_ble_eq_true rfl) (ws' := [(h0, .inr (3, [.int x1, .int x2, .int x3, .int x4, .int 0, .int 0]))]) rfl dX3_init_22 ?_
  refine g_aload_n (pc := 25) X 0 rfl dX3_init_25 ?_
  refine g_iload (pc := 26) X 5 rfl dX3_init_26 ?_
  refine g_sipush (pc := 28) X 1000 (by decide) dX3_init_28 ?_
  refine g_idiv (pc := 31) X (by decide) dX3_init_31 ?_
  refine g_putF (pc := 32) X hnm inlX3 tyX3_ok nmX3 0 rfl rfl 4 (by decide) mw_31_11 rfl rfl rfl rfl (Nat.le_of_ble_eq_true rfl) (ws' := [(h0, .inr (3, [.int x1, .int x2, .int x3, .int x4, .int (x5 / 1000), .int 0]))]) rfl dX3_init_32 ?_
  refine g_aload_n (pc := 35) X 0 rfl dX3_init_35 ?_
  refine g_iload (pc := 36) X 5 rfl dX3_init_36 ?_
  refine g_sipush (pc := 38) X 1000 (by decide) dX3_init_38 ?_
  refine g_irem (pc := 41) X (by decide) dX3_init_41 ?_
  refine g_putF (pc := 42) X hnm inlX3 tyX3_ok nmX3 0 rfl rfl 5 (by decide) mw_31_12 rfl rfl rfl rfl (Nat.le_of_ble_eq_true rfl) (ws' := [(h0, .inr (3, [.int x1, .int x2, .int x3, .int x4, .int (x5 / 1000), .int (x5 - x5 / 1000 * 1000)]))]) rfl dX3_init_42 ?_
  exact g_vret (pc := 45) X hA (⟨rfl, rfl⟩) (by decide) (by decide) dX3_init_45

set_option maxHeartbeats 4000000 in
set_option maxRecDepth 100000 in
theorem c_paper (l : Launch) (Z : gZ) (h0 : Nat) (a1 : Nat) (a2 : Nat) (a3 : Nat) (a4 : Nat) (a5 : Nat) (a6 : Nat) (a7 : Nat) (a8 : Nat) (a9 : Nat) (a10 : Nat) (a11 : Nat) (a12 : Nat) (x1 : Int32) (x2 : Int32) (x3 : Int32) (x4 : Int32) (x5 : Int32) : Con l Z yX11_paper cX11_paper 6 (some .int) 2 46 1 6 [.ref h0, .int x1, .int x2, .int x3, .int x4, .int x5] [(h0, .inr (11, [.ref a1, .ref a2, .ref a3, .ref a4, .ref a5, .ref a6, .ref a7, .ref a8, .ref a9, .ref a10, .ref a11, .ref a12, .int 0, .int 0, .int 5])), (a4, .inl (Z.2.1 4, 4, .inr (.inr (.inr (.inr (fun _ => none))))))] (fun r w' => r = some (.int (papC x1 x2 x3 x4 x5))) := by
  refine enter (by decide) (Nat.le_of_ble_eq_true rfl) ?_
  intro p e s m args below meth c A X hnm hA
  have X : Cx p s m args meth c cX11_paper 6 (some .int) RX11 Z A := X
  refine g_as (pc' := 0) (lv' := [(0, .ref h0), (1, .int x1), (2, .int x2), (3, .int x3), (4, .int x4), (5, .int x5)]) (st' := []) (ws' := [(h0, .inr (11, [.ref a1, .ref a2, .ref a3, .ref a4, .ref a5, .ref a6, .ref a7, .ref a8, .ref a9, .ref a10, .ref a11, .ref a12, .int 0, .int 0, .int 5])), (a4, .inl (Z.2.1 4, 4, .inr (.inr (.inr (.inr (fun _ => none))))))]) rfl rfl rfl rfl ?_
  refine g_aload_n (pc := 0) X 0 rfl dX11_paper_0 ?_
  refine g_get (pc := 1) X inlX11 0 rfl rfl 13 (by decide) mw_3_5 rfl dX11_paper_1 ?_
  refine g_iconst (pc := 4) X 4 (by decide) dX11_paper_4 ?_
  refine g_icmp_ge (pc := 5) X 21 (by decide) dX11_paper_5 (fun h => absurd h (by decide)) (fun b5 => ?_)
  refine g_iload_n (pc := 8) X 1 rfl dX11_paper_8 ?_
  refine g_iload_n (pc := 9) X 2 rfl dX11_paper_9 ?_
  refine g_iload_n (pc := 10) X 3 rfl dX11_paper_10 ?_
  refine g_iload (pc := 11) X 4 rfl dX11_paper_11 ?_
  refine g_iload (pc := 13) X 5 rfl dX11_paper_13 ?_
  refine g_callS (pc := 15) X (c_canBe l Z x1 x2 x3 x4 x5) iM_X3_canBe mw_31_3 mw_31_4 [] [0, 1] rfl (wr := [(h0, .inr (11, [.ref a1, .ref a2, .ref a3, .ref a4, .ref a5, .ref a6, .ref a7, .ref a8, .ref a9, .ref a10, .ref a11, .ref a12, .int 0, .int 0, .int 5])), (a4, .inl (Z.2.1 4, 4, .inr (.inr (.inr (.inr (fun _ => none))))))]) rfl (by decide) rfl rfl (Nat.le_of_ble_eq_true rfl) (by decide) dX11_paper_15 (fun r w' hpo => ?_)
  obtain ⟨rfl, rfl⟩ := hpo
  refine g_as (pc' := 18) (lv' := [(0, .ref h0), (1, .int x1), (2, .int x2), (3, .int x3), (4, .int x4), (5, .int x5)]) (st' := [.int (canB x1 x2 x3 x4 x5)]) (ws' := [(h0, .inr (11, [.ref a1, .ref a2, .ref a3, .ref a4, .ref a5, .ref a6, .ref a7, .ref a8, .ref a9, .ref a10, .ref a11, .ref a12, .int 0, .int 0, .int 5])), (a4, .inl (Z.2.1 4, 4, .inr (.inr (.inr (.inr (fun _ => none))))))]) rfl rfl rfl rfl ?_
  refine g_if_ne (pc := 18) X 23 (by decide) dX11_paper_18 (fun b18 => ?_) (fun b18 => ?_)
  · refine g_aload_n (pc := 23) X 0 rfl dX11_paper_23 ?_
    refine g_get (pc := 24) X inlX11 0 rfl rfl 3 (by decide) mw_1_23 rfl dX11_paper_24 ?_
    refine g_aload_n (pc := 27) X 0 rfl dX11_paper_27 ?_
    refine g_get (pc := 28) X inlX11 0 rfl rfl 13 (by decide) mw_3_5 rfl dX11_paper_28 ?_
    refine g_new (pc := 31) (ci := 3) X inlX3 tyX3_ok mw_1_22 mw_31_2 mw_24_12 rfl df_X3 (by decide) (by decide) dX11_paper_31 (fun q1 => ?_)
    refine g_as (pc' := 34) (lv' := [(0, .ref h0), (1, .int x1), (2, .int x2), (3, .int x3), (4, .int x4), (5, .int x5)]) (st' := [.ref q1, .int 0, .ref a4]) (ws' := [(h0, .inr (11, [.ref a1, .ref a2, .ref a3, .ref a4, .ref a5, .ref a6, .ref a7, .ref a8, .ref a9, .ref a10, .ref a11, .ref a12, .int 0, .int 0, .int 5])), (a4, .inl (Z.2.1 4, 4, .inr (.inr (.inr (.inr (fun _ => none)))))), (q1, .inr (3, [.int 0, .int 0, .int 0, .int 0, .int 0, .int 0]))]) rfl rfl rfl rfl ?_
    refine g_dup (pc := 34) X rfl dX11_paper_34 ?_
    refine g_iload_n (pc := 35) X 1 rfl dX11_paper_35 ?_
    refine g_iload_n (pc := 36) X 2 rfl dX11_paper_36 ?_
    refine g_iload_n (pc := 37) X 3 rfl dX11_paper_37 ?_
    refine g_iload (pc := 38) X 4 rfl dX11_paper_38 ?_
    refine g_iload (pc := 40) X 5 rfl dX11_paper_40 ?_
    refine g_callI (pc := 42) X (c_Paper_init l Z q1 x1 x2 x3 x4 x5) iM_X3_init rfl mw_31_6 mw_31_7 [2] [0, 1] rfl (wr := [(h0, .inr (11, [.ref a1, .ref a2, .ref a3, .ref a4, .ref a5, .ref a6, .ref a7, .ref a8, .ref a9, .ref a10, .ref a11, .ref a12, .int 0, .int 0, .int 5])), (a4, .inl (Z.2.1 4, 4, .inr (.inr (.inr (.inr (fun _ => none))))))]) rfl (by decide) rfl rfl (Nat.le_of_ble_eq_true rfl) (by decide) dX11_paper_42 (fun r w' hpo => ?_)
    obtain ⟨rfl, rfl⟩ := hpo
    refine g_as (pc' := 45) (lv' := [(0, .ref h0), (1, .int x1), (2, .int x2), (3, .int x3), (4, .int x4), (5, .int x5)]) (st' := [.ref q1, .int 0, .ref a4]) (ws' := [(h0, .inr (11, [.ref a1, .ref a2, .ref a3, .ref a4, .ref a5, .ref a6, .ref a7, .ref a8, .ref a9, .ref a10, .ref a11, .ref a12, .int 0, .int 0, .int 5])), (a4, .inl (Z.2.1 4, 4, .inr (.inr (.inr (.inr (fun _ => none)))))), (q1, .inr (3, [.int x1, .int x2, .int x3, .int x4, .int (x5 / 1000), .int (x5 - x5 / 1000 * 1000)]))]) rfl rfl rfl rfl ?_
    refine g_aast (pc := 45) X 1 4 2 3 rfl rfl rfl rfl (vp_in_iff.mpr (by decide)) (ws' := [(h0, .inr (11, [.ref a1, .ref a2, .ref a3, .ref a4, .ref a5, .ref a6, .ref a7, .ref a8, .ref a9, .ref a10, .ref a11, .ref a12, .int 0, .int 0, .int 5])), (a4, .inl (Z.2.1 4, 4, .inr (.inr (.inr (.inr (va_up (fun _ => none) (0) (some q1))))))), (q1, .inr (3, [.int x1, .int x2, .int x3, .int x4, .int (x5 / 1000), .int (x5 - x5 / 1000 * 1000)]))]) rfl dX11_paper_45 ?_
    refine g_aload_n (pc := 46) X 0 rfl dX11_paper_46 ?_
    refine g_dup (pc := 47) X rfl dX11_paper_47 ?_
    refine g_get (pc := 48) X inlX11 0 rfl rfl 13 (by decide) mw_3_5 rfl dX11_paper_48 ?_
    refine g_iconst (pc := 51) X 1 (by decide) dX11_paper_51 ?_
    refine g_iadd (pc := 52) X dX11_paper_52 ?_
    refine g_lit (y := 1) (by decide) ?_
    refine g_put (pc := 53) X inlX11 tyX11_ok nmX11 0 rfl rfl 13 (by decide) mw_3_5 rfl rfl rfl (Nat.le_of_ble_eq_true rfl) (ws' := [(h0, .inr (11, [.ref a1, .ref a2, .ref a3, .ref a4, .ref a5, .ref a6, .ref a7, .ref a8, .ref a9, .ref a10, .ref a11, .ref a12, .int 0, .int 1, .int 5])), (a4, .inl (Z.2.1 4, 4, .inr (.inr (.inr (.inr (va_up (fun _ => none) (0) (some q1))))))), (q1, .inr (3, [.int x1, .int x2, .int x3, .int x4, .int (x5 / 1000), .int (x5 - x5 / 1000 * 1000)]))]) rfl dX11_paper_53 ?_
    refine g_aload_n (pc := 56) X 0 rfl dX11_paper_56 ?_
    refine g_get (pc := 57) X inlX11 0 rfl rfl 13 (by decide) mw_3_5 rfl dX11_paper_57 ?_
    refine g_iconst (pc := 60) X 1 (by decide) dX11_paper_60 ?_
    refine g_isub (pc := 61) X dX11_paper_61 ?_
    refine g_lit (y := 0) (by decide) ?_
    exact g_iret (pc := 62) X hA (congrArg (fun z => some (Value.int z)) (by simp [papC, b18])) (by decide) (by decide) dX11_paper_62
  · refine g_iconst (pc := 21) X (-1) (by decide) dX11_paper_21 ?_
    exact g_iret (pc := 22) X hA (congrArg (fun z => some (Value.int z)) (by simp [papC, b18])) (by decide) (by decide) dX11_paper_22
