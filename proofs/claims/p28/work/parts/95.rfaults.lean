set_option maxHeartbeats 4000000 in
set_option maxRecDepth 100000 in
theorem k_X12_faults_A (l : Launch) (Z : gZ) (g0 : Nat) (gA : Nat → Nat) (rm : Int) (b1 : Int) (nr : Int) (tm : Int) (at_ : Int) (to_ : Int) (fa : Int) (va : Int) (np : Int) (tn : Int) (pc_ : Int) (st_ : Int) (pa_ : Int) (ta : Int) (ow : Int) (of_ : Int) (ot : Int) (rl : Int) (hb : Int) (bs : Int) (se : Int) (b_rm : (-2147483648) ≤ rm ∧ rm ≤ 2147483647) (b_b1 : (-2147483648) ≤ b1 ∧ b1 ≤ 2147483647) (b_nr : 0 ≤ nr ∧ nr ≤ 6) (b_tm : 0 ≤ tm ∧ tm ≤ 400) (b_at_ : 0 ≤ at_ ∧ at_ ≤ 400) (b_to_ : 0 ≤ to_ ∧ to_ ≤ 400) (b_fa : (-1) ≤ fa ∧ fa ≤ 400) (b_va : (-2147483648) ≤ va ∧ va ≤ 2147483647) (b_np : 0 ≤ np ∧ np ≤ 4) (b_tn : 0 ≤ tn ∧ tn ≤ 20) (b_pc_ : 0 ≤ pc_ ∧ pc_ ≤ 480) (b_st_ : 0 ≤ st_ ∧ st_ ≤ 240) (b_pa_ : (-1) ≤ pa_ ∧ pa_ ≤ 3) (b_ta : (-2147483648) ≤ ta ∧ ta ≤ 2147483647) (b_ow : (-2147483648) ≤ ow ∧ ow ≤ 2147483647) (b_of_ : (-2147483648) ≤ of_ ∧ of_ ≤ 2147483647) (b_ot : (-2147483648) ≤ ot ∧ ot ≤ 2147483647) (b_rl : 0 ≤ rl ∧ rl ≤ 2880) (b_hb : 0 ≤ hb ∧ hb ≤ 4) (b_bs : (-2147483648) ≤ bs ∧ bs ≤ 2147483647) (b_se : 0 ≤ se ∧ se ≤ 10) (hk : ¬ (0 ≤ rm ∧ rm < nr)) : Con l Z yX12_faults cX12_faults 4 (some .int) 3 67 0 0 [.ref g0, .int (iI rm), .int (iI b1)] [(g0, .inr (12, mO gA nr tm at_ to_ fa va np tn pc_ st_ pa_ ta ow of_ ot rl hb bs se))] (fun r w' => (r = some (.int (iI (-1)))) ∧ (w' = [(g0, .inr (12, mO gA nr tm at_ to_ fa va np tn pc_ st_ pa_ ta ow of_ ot rl hb bs se))])) := by
  refine enter (by decide) (Nat.le_of_ble_eq_true rfl) ?_
  intro p e s m args below meth c A X hnm hA
  have X : Cx p s m args meth c cX12_faults 4 (some .int) RX12 Z A := X
  refine g_as (pc' := 0) (lv' := [(0, .ref g0), (1, .int (iI rm)), (2, .int (iI b1))]) (st' := []) (ws' := [(g0, .inr (12, mO gA nr tm at_ to_ fa va np tn pc_ st_ pa_ ta ow of_ ot rl hb bs se))]) rfl rfl rfl rfl ?_
  refine g_aload_n (pc := 0) X 0 rfl dX12_faults_0 ?_
  refine g_iload_n (pc := 1) X 1 rfl dX12_faults_1 ?_
  refine g_callV (pc := 2) X (k_isDone_A l Z g0 gA rm nr tm at_ to_ fa va np tn pc_ st_ pa_ ta ow of_ ot rl hb bs se b_rm b_nr b_tm b_at_ b_to_ b_fa b_va b_np b_tn b_pc_ b_st_ b_pa_ b_ta b_ow b_of_ b_ot b_rl b_hb b_bs b_se (by omega)) iM_X12_isDone mw_28_9 mw_28_10 mw_28_11 0 rfl rfl [0] [] rfl (wr := []) rfl (by decide) rfl rfl (Nat.le_of_ble_eq_true rfl) (by decide) dX12_faults_2 (fun r w' hpo => ?_)
  obtain ⟨rfl, rfl⟩ := hpo
  refine g_as (pc' := 5) (lv' := [(0, .ref g0), (1, .int (iI rm)), (2, .int (iI b1))]) (st' := [.int (iI 0)]) (ws' := [(g0, .inr (12, mO gA nr tm at_ to_ fa va np tn pc_ st_ pa_ ta ow of_ ot rl hb bs se))]) rfl rfl rfl rfl ?_
  refine g_if_eqI (pc := 5) X 20 (by decide) ⟨by decide, by decide⟩ dX12_faults_5 (fun _ => ?_) (fun h => absurd h (by decide))
  refine g_iconst (pc := 20) X (iI (-1)) (by rfl) dX12_faults_20 ?_
  exact g_iret (pc := 21) X hA (⟨rfl, rfl⟩) (by decide) (by decide) dX12_faults_21

set_option maxHeartbeats 4000000 in
set_option maxRecDepth 100000 in
theorem k_X12_best_A (l : Launch) (Z : gZ) (g0 : Nat) (gA : Nat → Nat) (rm : Int) (pp : Int) (b1 : Int) (b2 : Int) (nr : Int) (tm : Int) (at_ : Int) (to_ : Int) (fa : Int) (va : Int) (np : Int) (tn : Int) (pc_ : Int) (st_ : Int) (pa_ : Int) (ta : Int) (ow : Int) (of_ : Int) (ot : Int) (rl : Int) (hb : Int) (bs : Int) (se : Int) (b_rm : (-2147483648) ≤ rm ∧ rm ≤ 2147483647) (b_pp : (-2147483648) ≤ pp ∧ pp ≤ 2147483647) (b_b1 : (-2147483648) ≤ b1 ∧ b1 ≤ 2147483647) (b_b2 : (-2147483648) ≤ b2 ∧ b2 ≤ 2147483647) (b_nr : 0 ≤ nr ∧ nr ≤ 6) (b_tm : 0 ≤ tm ∧ tm ≤ 400) (b_at_ : 0 ≤ at_ ∧ at_ ≤ 400) (b_to_ : 0 ≤ to_ ∧ to_ ≤ 400) (b_fa : (-1) ≤ fa ∧ fa ≤ 400) (b_va : (-2147483648) ≤ va ∧ va ≤ 2147483647) (b_np : 0 ≤ np ∧ np ≤ 4) (b_tn : 0 ≤ tn ∧ tn ≤ 20) (b_pc_ : 0 ≤ pc_ ∧ pc_ ≤ 480) (b_st_ : 0 ≤ st_ ∧ st_ ≤ 240) (b_pa_ : (-1) ≤ pa_ ∧ pa_ ≤ 3) (b_ta : (-2147483648) ≤ ta ∧ ta ≤ 2147483647) (b_ow : (-2147483648) ≤ ow ∧ ow ≤ 2147483647) (b_of_ : (-2147483648) ≤ of_ ∧ of_ ≤ 2147483647) (b_ot : (-2147483648) ≤ ot ∧ ot ≤ 2147483647) (b_rl : 0 ≤ rl ∧ rl ≤ 2880) (b_hb : 0 ≤ hb ∧ hb ≤ 4) (b_bs : (-2147483648) ≤ bs ∧ bs ≤ 2147483647) (b_se : 0 ≤ se ∧ se ≤ 10) (hk : ¬ (0 ≤ rm ∧ rm < nr)) : Con l Z yX12_best cX12_best 11 (some .int) 2 46 0 0 [.ref g0, .int (iI rm), .int (iI pp), .int (iI b1), .int (iI b2)] [(g0, .inr (12, mO gA nr tm at_ to_ fa va np tn pc_ st_ pa_ ta ow of_ ot rl hb bs se))] (fun r w' => (r = some (.int (iI (-1)))) ∧ (w' = [(g0, .inr (12, mO gA nr tm at_ to_ fa va np tn pc_ st_ pa_ ta ow of_ ot rl hb bs se))])) := by
  refine enter (by decide) (Nat.le_of_ble_eq_true rfl) ?_
  intro p e s m args below meth c A X hnm hA
  have X : Cx p s m args meth c cX12_best 11 (some .int) RX12 Z A := X
  refine g_as (pc' := 0) (lv' := [(0, .ref g0), (1, .int (iI rm)), (2, .int (iI pp)), (3, .int (iI b1)), (4, .int (iI b2))]) (st' := []) (ws' := [(g0, .inr (12, mO gA nr tm at_ to_ fa va np tn pc_ st_ pa_ ta ow of_ ot rl hb bs se))]) rfl rfl rfl rfl ?_
  refine g_aload_n (pc := 0) X 0 rfl dX12_best_0 ?_
  refine g_iload_n (pc := 1) X 1 rfl dX12_best_1 ?_
  refine g_callV (pc := 2) X (k_X12_isRoom l Z g0 gA rm nr tm at_ to_ fa va np tn pc_ st_ pa_ ta ow of_ ot rl hb bs se b_rm b_nr b_tm b_at_ b_to_ b_fa b_va b_np b_tn b_pc_ b_st_ b_pa_ b_ta b_ow b_of_ b_ot b_rl b_hb b_bs b_se) iM_X12_isRoom mw_28_5 mw_28_6 mw_28_7 0 rfl rfl [0] [] rfl (wr := []) rfl (by decide) rfl rfl (Nat.le_of_ble_eq_true rfl) (by decide) dX12_best_2 (fun r w' hpo => ?_)
  obtain ⟨rfl, rfl⟩ := hpo
  refine g_as (pc' := 5) (lv' := [(0, .ref g0), (1, .int (iI rm)), (2, .int (iI pp)), (3, .int (iI b1)), (4, .int (iI b2))]) (st' := [.int (iI (bI (0 ≤ rm ∧ rm ≤ nr - 1)))]) (ws' := [(g0, .inr (12, mO gA nr tm at_ to_ fa va np tn pc_ st_ pa_ ta ow of_ ot rl hb bs se))]) rfl rfl rfl rfl ?_
  refine g_if_eqB (pc := 5) X 41 (by decide) dX12_best_5 (fun c5 => ?_) (fun h => absurd h (by omega))
  refine g_iconst (pc := 41) X (iI (-1)) (by rfl) dX12_best_41 ?_
  exact g_iret (pc := 42) X hA (⟨rfl, rfl⟩) (by decide) (by decide) dX12_best_42
