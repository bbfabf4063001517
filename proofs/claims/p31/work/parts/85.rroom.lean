set_option maxHeartbeats 4000000 in
set_option maxRecDepth 100000 in
theorem k_X12_room6 (l : Launch) (Z : gZ) (g0 : Nat) (gA : Nat → Nat) (nr : Int) (tm : Int) (at_ : Int) (to_ : Int) (fa : Int) (va : Int) (np : Int) (tn : Int) (pc_ : Int) (st_ : Int) (pa_ : Int) (ta : Int) (ow : Int) (of_ : Int) (ot : Int) (rl : Int) (hb : Int) (bs : Int) (se : Int) (b_nr : 0 ≤ nr ∧ nr ≤ 6) (b_tm : 0 ≤ tm ∧ tm ≤ 400) (b_at_ : 0 ≤ at_ ∧ at_ ≤ 400) (b_to_ : 0 ≤ to_ ∧ to_ ≤ 400) (b_fa : (-1) ≤ fa ∧ fa ≤ 400) (b_va : (-2147483648) ≤ va ∧ va ≤ 2147483647) (b_np : 0 ≤ np ∧ np ≤ 4) (b_tn : 0 ≤ tn ∧ tn ≤ 20) (b_pc_ : 0 ≤ pc_ ∧ pc_ ≤ 480) (b_st_ : 0 ≤ st_ ∧ st_ ≤ 240) (b_pa_ : (-1) ≤ pa_ ∧ pa_ ≤ 3) (b_ta : (-2147483648) ≤ ta ∧ ta ≤ 2147483647) (b_ow : (-2147483648) ≤ ow ∧ ow ≤ 2147483647) (b_of_ : (-2147483648) ≤ of_ ∧ of_ ≤ 2147483647) (b_ot : (-2147483648) ≤ ot ∧ ot ≤ 2147483647) (b_rl : 0 ≤ rl ∧ rl ≤ 2880) (b_hb : 0 ≤ hb ∧ hb ≤ 4) (b_bs : (-2147483648) ≤ bs ∧ bs ≤ 2147483647) (b_se : 0 ≤ se ∧ se ≤ 10) (h6 : nr = 6) : Con l Z yX12_room cX12_room 3 (some .int) 0 0 0 0 [.ref g0] [(g0, .inr (12, mO gA nr tm at_ to_ fa va np tn pc_ st_ pa_ ta ow of_ ot rl hb bs se))] (fun r w' => (r = some (.int (iI (-1)))) ∧ (w' = [(g0, .inr (12, mO gA nr tm at_ to_ fa va np tn pc_ st_ pa_ ta ow of_ ot rl hb bs se))])) := by
  refine enter (by decide) (Nat.le_of_ble_eq_true rfl) ?_
  intro p e s m args below meth c A X hnm hA
  have X : Cx p s m args meth c cX12_room 3 (some .int) RX12 Z A := X
  refine g_as (pc' := 0) (lv' := [(0, .ref g0)]) (st' := []) (ws' := [(g0, .inr (12, mO gA nr tm at_ to_ fa va np tn pc_ st_ pa_ ta ow of_ ot rl hb bs se))]) rfl rfl rfl rfl ?_
  refine g_aload_n (pc := 0) X 0 rfl dX12_room_0 ?_
  refine g_get (pc := 1) X inlX12 0 rfl rfl 18 (by decide) mw_22_12 rfl dX12_room_1 ?_
  refine g_bipush (pc := 4) X (iI 6) (by decide) dX12_room_4 ?_
  refine g_icmp_neI (pc := 6) X 11 (by decide) (inRb b_nr (by decide) (by decide)) ⟨by decide, by decide⟩ dX12_room_6 (fun h => absurd h (by (first | (clear b_tm b_at_ b_to_ b_fa b_va b_np b_tn b_pc_ b_st_ b_pa_ b_ta b_ow b_of_ b_ot b_rl b_hb b_bs b_se; omega) | omega))) (fun c6 => ?_)
  refine g_iconst (pc := 9) X (iI (-1)) (by rfl) dX12_room_9 ?_
  exact g_iret (pc := 10) X hA (⟨rfl, rfl⟩) (by decide) (by decide) dX12_room_10
