/-! ===== the start: what the Statement gives, in my words ===== -/
theorem int2_spec {args : Array Value} {s : State} (h : (Cond.arrayOver (.array .int)).before args s = true) : ∃ (comp c : ClassId) (k : Class), s.vm.findClass "[I" = some comp ∧ s.vm.classes[c]? = some k ∧ k.kind = .array comp (.array .int) ∧ s.vm.findClass "[[I" = some c := by
  have h' : (Cond.arrayOver (.array .int)).holds args s none s [] = true := h
  simp only [Cond.holds, Cond.value, beq_iff_eq] at h'
  cases hc : s.vm.findClass (FieldType.array .int).toString with
  | none => simp [hc] at h'
  | some comp =>
    simp only [hc, Option.bind_some, Option.bind_eq_some_iff, Option.map_eq_some_iff] at h'
    obtain ⟨c, hi, k, hk, hb⟩ := h'
    obtain ⟨hlt, hp, -⟩ := Array.findIdx?_eq_some_iff_getElem.mp hi
    have hkk : s.vm.classes[c] = k := (Array.getElem?_eq_some_iff.mp hk).2
    rw [hkk] at hp
    cases hkind : k.kind with
    | array component ty =>
      rw [hkind] at hb hp
      simp at hb hp
      exact ⟨comp, c, k, hc, hk, by rw [hkind, hp, hb.1], hb.2⟩
    | _ => rw [hkind] at hb; simp at hb
theorem arr_known {args : Array Value} {s : State} {ty : FieldType} (hr : ∀ C, ty ≠ .object C) (h : (Cond.arrayClass ty).before args s = true) : ∃ c : ClassId, ArrOfT s c ty ∧ va_RA s c ty := by
  obtain ⟨c, k, comp, h1, h2, h3⟩ := Cond.arrayClass_spec (o := none) (idx := []) h
  refine ⟨c, fun n z => ⟨fun q hq => (by cases hq), k, h2, comp, h3⟩, ?_⟩
  cases ty with
  | object C => exact absurd rfl (hr C)
  | _ => exact h1
theorem arq_known {args : Array Value} {s : State} {C : String} (h : (Cond.arrayOver (.object C)).before args s = true) : ∃ c : ClassId, ArrOfT s c (.object C) ∧ va_RA s c (.object C) := by
  obtain ⟨comp, c, k, h1, h2, h3, h4, h5⟩ := Cond.arrayOver_spec (o := none) (idx := []) h
  exact ⟨c, fun n z => ⟨fun q hq => (by cases hq), k, h3, comp, h4⟩, k, comp, h3, h4, h1, h5⟩
def gTm (i : Nat) : Term := Term.string "HalfDropModel" (([72, 74, 76, 78, 79] : List Nat).getD i 0)
theorem ml_t0 : Cond.stringRef "HalfDrop$Text" 63 "wall" ∈ lw_tbl := List.mem_of_getElem? (i := 609) (by decide +kernel)
theorem ml_t1 : Cond.stringRef "HalfDrop$Text" 69 "door" ∈ lw_tbl := List.mem_of_getElem? (i := 662) (by decide +kernel)
theorem ml_t2 : Cond.stringRef "HalfDrop$Text" 71 "window" ∈ lw_tbl := List.mem_of_getElem? (i := 663) (by decide +kernel)
theorem ml_t3 : Cond.stringRef "HalfDrop$Text" 73 "lean" ∈ lw_tbl := List.mem_of_getElem? (i := 664) (by decide +kernel)
theorem ml_t4 : Cond.stringRef "HalfDrop$Text" 75 "stand" ∈ lw_tbl := List.mem_of_getElem? (i := 665) (by decide +kernel)
theorem ml_cs : Cond.laysStatic "java/lang/String" "COMPACT_STRINGS" "Z" ∈ lw_tbl := List.mem_of_getElem? (i := 623) (by decide +kernel)
theorem ml_sf : Cond.laysStatic "jdk/internal/util/Preconditions" "SIOOBE_FORMATTER" "Ljava/util/function/BiFunction;" ∈ lw_tbl := List.mem_of_getElem? (i := 639) (by decide +kernel)
theorem ml_csI : Cond.initialized "java/lang/String" ∈ lw_tbl := List.mem_of_getElem? (i := 101) (by decide +kernel)
theorem ml_sfI : Cond.initialized "jdk/internal/util/Preconditions" ∈ lw_tbl := List.mem_of_getElem? (i := 103) (by decide +kernel)
theorem eq_ev {args : Array Value} {s : State} {a b : Term} {v : Value} (h : (Cond.eq a b).before args s = true) (hb : b.eval args s none [] s = some v) : a.eval args s none [] s = some v := by
  have h' : (Cond.eq a b).value args s none s [] = some true := by simpa [Cond.before, Cond.holds] using h
  simp only [Cond.value, hb] at h'
  cases ha : a.eval args s none [] s with
  | none => rw [ha] at h'; simp at h'
  | some x =>
    rw [ha] at h'
    cases x <;> cases v <;> simp_all
theorem ml_int : Cond.arrayClass .int ∈ lw_tbl := List.mem_of_getElem? (i := 147) (by decide +kernel)
theorem ml_byte : Cond.arrayClass .byte ∈ lw_tbl := List.mem_of_getElem? (i := 766) (by decide +kernel)
theorem ml_boolean : Cond.arrayClass .boolean ∈ lw_tbl := List.mem_of_getElem? (i := 399) (by decide +kernel)
theorem ml_o0 : Cond.arrayOver (.object "HalfDrop$Room") ∈ lw_tbl := List.mem_of_getElem? (i := 165) (by decide +kernel)
theorem ml_o1 : Cond.arrayOver (.object "HalfDrop$Paper") ∈ lw_tbl := List.mem_of_getElem? (i := 167) (by decide +kernel)
theorem ml_o2 : Cond.arrayOver (.object "HalfDrop$State") ∈ lw_tbl := List.mem_of_getElem? (i := 204) (by decide +kernel)
theorem ml_o3 : Cond.arrayOver (.object "java/lang/String") ∈ lw_tbl := List.mem_of_getElem? (i := 1284) (by decide +kernel)
theorem ml_aa : Cond.arrayOver (.array .int) ∈ lw_tbl := List.mem_of_getElem? (i := 1282) (by decide +kernel)
theorem ml_n0 : Cond.methodLinkNest RX6 57 yX11_isFrom "HalfDrop" ∈ lw_tbl := List.mem_of_getElem? (i := 844) (by decide +kernel)
theorem ml_n1 : Cond.methodLinkNest RX9 30 yX11_isFrom "HalfDrop" ∈ lw_tbl := List.mem_of_getElem? (i := 586) (by decide +kernel)
theorem ml_n2 : Cond.methodLinkNest RX0 20 yX11_isFrom "HalfDrop" ∈ lw_tbl := List.mem_of_getElem? (i := 1241) (by decide +kernel)
theorem ml_n3 : Cond.methodLinkNest RX6 77 yX11_rest "HalfDrop" ∈ lw_tbl := List.mem_of_getElem? (i := 1016) (by decide +kernel)
theorem ml_n4 : Cond.methodLinkNest RX2 154 yX11_isFrom "HalfDrop" ∈ lw_tbl := List.mem_of_getElem? (i := 1214) (by decide +kernel)
theorem ml_n5 : Cond.methodLinkNest RX3 38 yX11_rest "HalfDrop" ∈ lw_tbl := List.mem_of_getElem? (i := 853) (by decide +kernel)
theorem ml_n6 : Cond.methodLinkNest RX8 37 yX11_isFrom "HalfDrop" ∈ lw_tbl := List.mem_of_getElem? (i := 1197) (by decide +kernel)
theorem ml_n7 : Cond.methodLinkNest RX3 30 yX11_isFrom "HalfDrop" ∈ lw_tbl := List.mem_of_getElem? (i := 892) (by decide +kernel)
theorem ml_n8 : Cond.methodLinkNest RX4 123 yX11_isFrom "HalfDrop" ∈ lw_tbl := List.mem_of_getElem? (i := 708) (by decide +kernel)
theorem ml_n9 : Cond.methodLinkNest RX10 62 yX11_isFrom "HalfDrop" ∈ lw_tbl := List.mem_of_getElem? (i := 1096) (by decide +kernel)
theorem ml_n10 : Cond.methodLinkNest RX3 34 yX11_cutUp "HalfDrop" ∈ lw_tbl := List.mem_of_getElem? (i := 796) (by decide +kernel)
theorem ml_n11 : Cond.methodLinkNest RX1 44 yX11_rest "HalfDrop" ∈ lw_tbl := List.mem_of_getElem? (i := 1005) (by decide +kernel)
theorem ml_n12 : Cond.methodLinkNest RX2 96 yX11_rest "HalfDrop" ∈ lw_tbl := List.mem_of_getElem? (i := 808) (by decide +kernel)
theorem ml_n13 : Cond.methodLinkNest RX7 40 yX11_isFrom "HalfDrop" ∈ lw_tbl := List.mem_of_getElem? (i := 1138) (by decide +kernel)
theorem ml_n14 : Cond.methodLinkNest RX1 111 yX11_isFrom "HalfDrop" ∈ lw_tbl := List.mem_of_getElem? (i := 1082) (by decide +kernel)
theorem ml_s0 : Cond.stringRef "HalfDropModel" 72 "wall" ∈ lw_tbl := List.mem_of_getElem? (i := 1285) (by decide +kernel)
theorem ml_s1 : Cond.stringRef "HalfDropModel" 74 "door" ∈ lw_tbl := List.mem_of_getElem? (i := 1286) (by decide +kernel)
theorem ml_s2 : Cond.stringRef "HalfDropModel" 76 "window" ∈ lw_tbl := List.mem_of_getElem? (i := 1287) (by decide +kernel)
theorem ml_s3 : Cond.stringRef "HalfDropModel" 78 "lean" ∈ lw_tbl := List.mem_of_getElem? (i := 1288) (by decide +kernel)
theorem ml_s4 : Cond.stringRef "HalfDropModel" 79 "stand" ∈ lw_tbl := List.mem_of_getElem? (i := 1289) (by decide +kernel)
theorem ml_iX0 : Cond.instantiable RX0 7 ∈ lw_tbl := List.mem_of_getElem? (i := 401) (by decide +kernel)
theorem ml_iX1 : Cond.instantiable RX1 9 ∈ lw_tbl := List.mem_of_getElem? (i := 316) (by decide +kernel)
theorem ml_iX2 : Cond.instantiable RX2 16 ∈ lw_tbl := List.mem_of_getElem? (i := 206) (by decide +kernel)
theorem ml_iX3 : Cond.instantiable RX3 6 ∈ lw_tbl := List.mem_of_getElem? (i := 893) (by decide +kernel)
theorem ml_iX4 : Cond.instantiable RX4 3 ∈ lw_tbl := List.mem_of_getElem? (i := 149) (by decide +kernel)
theorem ml_iX5 : Cond.instantiable RX5 8 ∈ lw_tbl := List.mem_of_getElem? (i := 281) (by decide +kernel)
theorem ml_iX6 : Cond.instantiable RX6 12 ∈ lw_tbl := List.mem_of_getElem? (i := 429) (by decide +kernel)
theorem ml_iX7 : Cond.instantiable RX7 12 ∈ lw_tbl := List.mem_of_getElem? (i := 353) (by decide +kernel)
theorem ml_iX8 : Cond.instantiable RX8 8 ∈ lw_tbl := List.mem_of_getElem? (i := 169) (by decide +kernel)
theorem ml_iX9 : Cond.instantiable RX9 6 ∈ lw_tbl := List.mem_of_getElem? (i := 117) (by decide +kernel)
theorem ml_iX10 : Cond.instantiable RX10 8 ∈ lw_tbl := List.mem_of_getElem? (i := 435) (by decide +kernel)
theorem ml_iX11 : Cond.instantiable RX11 15 ∈ lw_tbl := List.mem_of_getElem? (i := 109) (by decide +kernel)
theorem ml_iX12 : Cond.instantiable RX12 75 ∈ lw_tbl := List.mem_of_getElem? (i := 1276) (by decide +kernel)
theorem ml_nest : ∀ q ∈ gNest, Cond.methodLinkNest q.1 q.2.1 q.2.2 "HalfDrop" ∈ lw_tbl := List.forall_mem_cons.mpr ⟨ml_n0, List.forall_mem_cons.mpr ⟨ml_n1, List.forall_mem_cons.mpr ⟨ml_n2, List.forall_mem_cons.mpr ⟨ml_n3, List.forall_mem_cons.mpr ⟨ml_n4, List.forall_mem_cons.mpr ⟨ml_n5, List.forall_mem_cons.mpr ⟨ml_n6, List.forall_mem_cons.mpr ⟨ml_n7, List.forall_mem_cons.mpr ⟨ml_n8, List.forall_mem_cons.mpr ⟨ml_n9, List.forall_mem_cons.mpr ⟨ml_n10, List.forall_mem_cons.mpr ⟨ml_n11, List.forall_mem_cons.mpr ⟨ml_n12, List.forall_mem_cons.mpr ⟨ml_n13, List.forall_mem_cons.mpr ⟨ml_n14, fun _ h => absurd h List.not_mem_nil⟩⟩⟩⟩⟩⟩⟩⟩⟩⟩⟩⟩⟩⟩⟩
set_option maxHeartbeats 4000000 in
set_option maxRecDepth 100000 in
theorem whole_start {p : Program} {e : Env} {s : State} {m : MethodId} {below : List Frame} {meth : Method} {c : Code} (l : Launch) {b L : Nat} {xs : Nat → Int32} (hL : L ≤ 3072) (C0 : lw_At p s m meth c b L xs) : W p l e room_1 s m #[Value.ref b] below meth c s.heap [] 0 0 (lw_Z below #[Value.ref b] s) (entryFrame m ([Value.ref b] : List Value).toArray 4) := by
  obtain ⟨hx, hb, hr, hml, hown, hts, hX, hbl, hlocks, hgv⟩ := id C0
  have htU : ∀ w ∈ wU, w.before #[Value.ref b] s = true := fun w h => hts w (gU w h).1
  have hs := flat_of_before _ hgv
  obtain ⟨k0, iS0, hKn0⟩ := u_known (C := RX0) (T := TX0) (N := 7) (n := 7) htU inlX0 (hts _ ml_iX0)
  obtain ⟨k1, iS1, hKn1⟩ := u_known (C := RX1) (T := TX1) (N := 9) (n := 9) htU inlX1 (hts _ ml_iX1)
  obtain ⟨k2, iS2, hKn2⟩ := u_known (C := RX2) (T := TX2) (N := 16) (n := 16) htU inlX2 (hts _ ml_iX2)
  obtain ⟨k3, iS3, hKn3⟩ := u_known (C := RX3) (T := TX3) (N := 6) (n := 6) htU inlX3 (hts _ ml_iX3)
  obtain ⟨k4, iS4, hKn4⟩ := u_known (C := RX4) (T := TX4) (N := 3) (n := 3) htU inlX4 (hts _ ml_iX4)
  obtain ⟨k5, iS5, hKn5⟩ := u_known (C := RX5) (T := TX5) (N := 8) (n := 8) htU inlX5 (hts _ ml_iX5)
  obtain ⟨k6, iS6, hKn6⟩ := u_known (C := RX6) (T := TX6) (N := 12) (n := 12) htU inlX6 (hts _ ml_iX6)
  obtain ⟨k7, iS7, hKn7⟩ := u_known (C := RX7) (T := TX7) (N := 12) (n := 12) htU inlX7 (hts _ ml_iX7)
  obtain ⟨k8, iS8, hKn8⟩ := u_known (C := RX8) (T := TX8) (N := 8) (n := 8) htU inlX8 (hts _ ml_iX8)
  obtain ⟨k9, iS9, hKn9⟩ := u_known (C := RX9) (T := TX9) (N := 6) (n := 6) htU inlX9 (hts _ ml_iX9)
  obtain ⟨k10, iS10, hKn10⟩ := u_known (C := RX10) (T := TX10) (N := 8) (n := 8) htU inlX10 (hts _ ml_iX10)
  obtain ⟨k11, iS11, hKn11⟩ := u_known (C := RX11) (T := TX11) (N := 15) (n := 15) htU inlX11 (hts _ ml_iX11)
  obtain ⟨k12, iS12, hKn12⟩ := u_known (C := RX12) (T := TX12) (N := 75) (n := 75) htU inlX12 (hts _ ml_iX12)
  obtain ⟨dC, dI, hKc⟩ : ∃ (dC : Nat → ClassId) (dI : Nat → Nat → Nat), ∀ (k : Nat) (q : vw_C), vwCl[k]? = some q → u_Kn s q.1 q.2.1 q.2.2 (dC k) (dI k) := by
    refine ⟨fun k => ([k0, k1, k2, k3, k4, k5, k6, k7, k8, k9, k10, k11, k12] : List ClassId).getD k k0, fun k => ([iS0, iS1, iS2, iS3, iS4, iS5, iS6, iS7, iS8, iS9, iS10, iS11, iS12] : List (Nat → Nat)).getD k iS0, ?_⟩
    intro k q hq
    match k, hq with
    | 0, hq => cases hq; exact hKn0
    | 1, hq => cases hq; exact hKn1
    | 2, hq => cases hq; exact hKn2
    | 3, hq => cases hq; exact hKn3
    | 4, hq => cases hq; exact hKn4
    | 5, hq => cases hq; exact hKn5
    | 6, hq => cases hq; exact hKn6
    | 7, hq => cases hq; exact hKn7
    | 8, hq => cases hq; exact hKn8
    | 9, hq => cases hq; exact hKn9
    | 10, hq => cases hq; exact hKn10
    | 11, hq => cases hq; exact hKn11
    | 12, hq => cases hq; exact hKn12
    | k + 13, hq => simp [vwCl] at hq
  obtain ⟨a0, hA0, hR0⟩ := arr_known (ty := .int) (fun _ => nofun) (hts _ ml_int)
  obtain ⟨a1, hA1, hR1⟩ := arr_known (ty := .byte) (fun _ => nofun) (hts _ ml_byte)
  obtain ⟨a2, hA2, hR2⟩ := arr_known (ty := .boolean) (fun _ => nofun) (hts _ ml_boolean)
  obtain ⟨a3, hA3, hR3⟩ := arq_known (hts _ ml_o0)
  obtain ⟨a4, hA4, hR4⟩ := arq_known (hts _ ml_o1)
  obtain ⟨a5, hA5, hR5⟩ := arq_known (hts _ ml_o2)
  obtain ⟨a7, hA7, hR7⟩ := arq_known (hts _ ml_o3)
  obtain ⟨comp, a6, kA, hc1, hc2, hc3, hc4⟩ := int2_spec (hts _ ml_aa)
  obtain ⟨a0', kC, ccC, hd1, hd2, hd3⟩ := Cond.arrayClass_spec (o := none) (idx := []) (hts _ ml_int)
  have e0 : a0' = a0 := Option.some.inj (hd1.symm.trans hR0)
  subst e0
  have e1 : comp = a0' := Option.some.inj (hc1.symm.trans hR0)
  subst e1
  have hA6 : ArrOfT s a6 (.array .int) := fun n z => ⟨fun q hq => (by cases hq), kA, hc2, comp, hc3⟩
  obtain ⟨ks, vs, hSS, hev⟩ := vk_Sof (args := #[Value.ref b]) (s := s) (N := 5) (tm := gTm) (len := gLen) (byt := gByt) (A := fun q => s.heap.size ≤ q)
    (fun i hi => by rcases (show i = 0 ∨ i = 1 ∨ i = 2 ∨ i = 3 ∨ i = 4 by omega) with rfl | rfl | rfl | rfl | rfl <;> decide)
    (fun i hi => by rcases (show i = 0 ∨ i = 1 ∨ i = 2 ∨ i = 3 ∨ i = 4 by omega) with rfl | rfl | rfl | rfl | rfl <;> exact hs _ (by decide +kernel))
    (fun i hi => by rcases (show i = 0 ∨ i = 1 ∨ i = 2 ∨ i = 3 ∨ i = 4 by omega) with rfl | rfl | rfl | rfl | rfl <;> exact hs _ (by decide +kernel))
    (fun i hi => by rcases (show i = 0 ∨ i = 1 ∨ i = 2 ∨ i = 3 ∨ i = 4 by omega) with rfl | rfl | rfl | rfl | rfl <;> exact hs _ (by decide +kernel))
    (fun i hi => by rcases (show i = 0 ∨ i = 1 ∨ i = 2 ∨ i = 3 ∨ i = 4 by omega) with rfl | rfl | rfl | rfl | rfl <;> exact hs _ (by decide +kernel))
    (fun i hi j hj => by
      rcases (show i = 0 ∨ i = 1 ∨ i = 2 ∨ i = 3 ∨ i = 4 by omega) with rfl | rfl | rfl | rfl | rfl
      · have hj : j < 4 := hj
        rcases (show j = 0 ∨ j = 1 ∨ j = 2 ∨ j = 3 by omega) with rfl | rfl | rfl | rfl <;> exact hs _ (by decide +kernel)
      · have hj : j < 4 := hj
        rcases (show j = 0 ∨ j = 1 ∨ j = 2 ∨ j = 3 by omega) with rfl | rfl | rfl | rfl <;> exact hs _ (by decide +kernel)
      · have hj : j < 6 := hj
        rcases (show j = 0 ∨ j = 1 ∨ j = 2 ∨ j = 3 ∨ j = 4 ∨ j = 5 by omega) with rfl | rfl | rfl | rfl | rfl | rfl <;> exact hs _ (by decide +kernel)
      · have hj : j < 4 := hj
        rcases (show j = 0 ∨ j = 1 ∨ j = 2 ∨ j = 3 by omega) with rfl | rfl | rfl | rfl <;> exact hs _ (by decide +kernel)
      · have hj : j < 5 := hj
        rcases (show j = 0 ∨ j = 1 ∨ j = 2 ∨ j = 3 ∨ j = 4 by omega) with rfl | rfl | rfl | rfl | rfl <;> exact hs _ (by decide +kernel))
    (fun i j hi hj hij => by
      rcases (show i = 0 ∨ i = 1 ∨ i = 2 ∨ i = 3 ∨ i = 4 by omega) with rfl | rfl | rfl | rfl | rfl <;> rcases (show j = 0 ∨ j = 1 ∨ j = 2 ∨ j = 3 ∨ j = 4 by omega) with rfl | rfl | rfl | rfl | rfl <;> first | exact absurd rfl hij | exact Or.inl (hs _ (by decide +kernel)) | exact Or.inr (hs _ (by decide +kernel)))
    (fun a ha => Nat.not_le.mpr ha)
  have hK : gK ((dC, dI), (fun k => ([comp, a1, a2, a3, a4, a5, a6, a7] : List ClassId).getD k comp), ks, vs) s := by
    refine ⟨⟨hKc, ?_⟩, fun q hq => va_Nw.of rfl (hts _ (ml_nest q hq)), ⟨va_AO.of (hts _ ml_o0), va_AO.of (hts _ ml_o1), va_AO.of (hts _ ml_o2), va_AO.of (hts _ ml_o3), kA, kC, ccC, hc4, hc2, hc3, hd2, hd3⟩, ?_⟩
    · intro k q hq
      match k, hq with
      | 0, hq => cases hq; exact ⟨hA0, hR0⟩
      | 1, hq => cases hq; exact ⟨hA1, hR1⟩
      | 2, hq => cases hq; exact ⟨hA2, hR2⟩
      | 3, hq => cases hq; exact ⟨hA3, hR3⟩
      | 4, hq => cases hq; exact ⟨hA4, hR4⟩
      | 5, hq => cases hq; exact ⟨hA5, hR5⟩
      | 6, hq => cases hq; exact ⟨hA6, hc4⟩
      | 7, hq => cases hq; exact ⟨hA7, hR7⟩
      | k + 8, hq => simp [gTy] at hq
    · exact List.forall_mem_cons.mpr ⟨vk_R.of (hts _ ml_s0) (hev 0 (by decide)), List.forall_mem_cons.mpr ⟨vk_R.of (hts _ ml_s1) (hev 1 (by decide)), List.forall_mem_cons.mpr ⟨vk_R.of (hts _ ml_s2) (hev 2 (by decide)), List.forall_mem_cons.mpr ⟨vk_R.of (hts _ ml_s3) (hev 3 (by decide)), List.forall_mem_cons.mpr ⟨vk_R.of (hts _ ml_s4) (hev 4 (by decide)), List.forall_mem_cons.mpr ⟨vk_R.of (hts _ ml_t0) (eq_ev (b := gTm 0) (hs _ (by decide +kernel)) (hev 0 (by decide))), List.forall_mem_cons.mpr ⟨vk_R.of (hts _ ml_t1) (eq_ev (b := gTm 1) (hs _ (by decide +kernel)) (hev 1 (by decide))), List.forall_mem_cons.mpr ⟨vk_R.of (hts _ ml_t2) (eq_ev (b := gTm 2) (hs _ (by decide +kernel)) (hev 2 (by decide))), List.forall_mem_cons.mpr ⟨vk_R.of (hts _ ml_t3) (eq_ev (b := gTm 3) (hs _ (by decide +kernel)) (hev 3 (by decide))), List.forall_mem_cons.mpr ⟨vk_R.of (hts _ ml_t4) (eq_ev (b := gTm 4) (hs _ (by decide +kernel)) (hev 4 (by decide))), fun _ h => absurd h List.not_mem_nil⟩⟩⟩⟩⟩⟩⟩⟩⟩⟩
  have hZ1 : va_Z "java/lang/String" "COMPACT_STRINGS" "Z" (.int 1) (fun q => s.heap.size ≤ q) s s.heap := va_Zof (hts _ ml_cs) (hts _ ml_csI) (eq_ev (b := .int 1) (hs _ (by decide +kernel)) rfl) (fun a ha => Nat.not_le.mpr ha)
  have hZ2 : va_Zq "jdk/internal/util/Preconditions" "SIOOBE_FORMATTER" "Ljava/util/function/BiFunction;" (fun q => s.heap.size ≤ q) s s.heap := va_Zqof (hts _ ml_sf) (hts _ ml_sfI) (hs _ (by decide +kernel)) (fun a ha => Nat.not_le.mpr ha)
  have X : Cx p s m #[Value.ref b] meth c cL_law 4 ret R_law ((dC, dI), (fun k => ([comp, a1, a2, a3, a4, a5, a6, a7] : List ClassId).getD k comp), ks, vs) (fun q => s.heap.size ≤ q) := ⟨hx, hb, hr, hml, hown, htU, hK, ⟨hSS, hZ1, hZ2⟩, hlocks, fun _ h => h⟩
  rw [lg_entry_eq]
  exact law_body X hX hbl hL s.heap [] _ (fun k q h => by simp at h) ⟨fun i j p q h => by simp at h, fun k q h => by simp at h⟩ va_S.rf (lv_entry [.ref b] (Nat.le_of_ble_eq_true rfl))
