theorem ofNatI (L : Nat) : Int32.ofNat L = iI (L : Int) := Int32.ofInt_eq_ofNat.symm

set_option maxHeartbeats 4000000 in
set_option maxRecDepth 100000 in
theorem law_loop {p : Program} {l : Launch} {e : Env} {s : State} {m : MethodId} {below : List Frame} {meth : Method} {c : Code} {b L : Nat} {xs : Nat → Int32} {Z : gZ} (X : Cx p s m #[Value.ref b] meth c cL_law 4 ret R_law Z (fun q => s.heap.size ≤ q)) (hX : va_X b L xs s s.heap) (hbl : b < s.heap.size) {o0 g0 : Nat} (hL : L ≤ 3072) : ∀ (fuel k n : Nat) (i np hb se nr tn ts : Int) (prr ki ie Tb : Nat → Int) (RC : Nat → List (Nat → Int)) (W M : va_W), 0 ≤ i → (L : Int) - i < 6 * (fuel : Int) → i ≤ (L : Int) → cI Z o0 np hb se nr tn ts prr ki ie Tb RC W → mI Z g0 np hb se nr tn ts prr ki ie Tb RC M → k + 40 * fuel ≤ 599900 → n + 400 * fuel ≤ 7302000 → Gs p l e room_1 s m #[Value.ref b] below meth c (lw_Z below #[Value.ref b] s) Z (fun q => s.heap.size ≤ q) 4 k n 18 [(3, .int (iI i)), (2, .ref g0), (1, .ref o0), (0, .ref b)] [] (W ++ M) := by
  intro fuel
  induction fuel with
  | zero => intro k n i np hb se nr tn ts prr ki ie Tb RC W M h0 h1 h2 I J hk hn; exfalso; omega
  | succ fuel ih =>
    intro k n i np hb se nr tn ts prr ki ie Tb RC W M h0 h1 h2 I J hk hn
    refine g_iload_n (pc := 18) X 0 rfl dL_law_18 ?_
    refine g_aload_n (pc := 19) X 3 rfl dL_law_19 ?_
    refine g_slen (pc := 20) X hX hbl (Nat.not_le.mpr hbl) dL_law_20 ?_
    refine g_lit (y := iI (L : Int)) (ofNatI L) ?_
    refine g_bipush (pc := 21) X (iI 6) (by decide) dL_law_21 ?_
    refine g_isubI (pc := 23) X dL_law_23 ?_
    refine g_icmp_gtI (pc := 24) X 1244 (by decide) ⟨by omega, by omega⟩ ⟨by omega, by omega⟩ dL_law_24 (fun hx => ?_) (fun hx => ?_)
    · refine g_iconst (pc := 1244) X 1 (by decide) dL_law_1244 ?_
      exact law_ret (pc := 1245) X (by omega) (by omega) dL_law_1245
    · have tail : ∀ (np hb se nr tn ts : Int) (prr ki ie Tb : Nat → Int) (RC : Nat → List (Nat → Int)) (W M : va_W), cI Z o0 np hb se nr tn ts prr ki ie Tb RC W → mI Z g0 np hb se nr tn ts prr ki ie Tb RC M → Gs p l e room_1 s m #[Value.ref b] below meth c (lw_Z below #[Value.ref b] s) Z (fun q => s.heap.size ≤ q) 4 (k + 40) (n + 400) 1238 [(3, .int (iI i)), (2, .ref g0), (1, .ref o0), (0, .ref b)] [] (W ++ M) := by
        intro np hb se nr tn ts prr ki ie Tb RC W M I J
        refine g_iincI (pc := 1238) X 0 rfl (by decide) (lv' := [(3, .int (iI (i + 6))), (2, .ref g0), (1, .ref o0), (0, .ref b)]) rfl dL_law_1238 ?_
        refine g_goto (pc := 1241) X 18 (by decide) dL_law_1241 ?_
        exact ih (k + 40) (n + 400) (i + 6) np hb se nr tn ts prr ki ie Tb RC W M (by omega) (by omega) (by omega) I J (by omega) (by omega)
      refine g_aload_n (pc := 27) X 3 rfl dL_law_27 ?_
      refine g_iload_n (pc := 28) X 0 rfl dL_law_28 ?_
      refine g_sldI (pc := 29) X hX hbl (Nat.not_le.mpr hbl) (by omega) (by omega) (by omega) dL_law_29 (fun a0 ea0 b_a0 => ?_)
      refine g_bipush (pc := 30) X (iI 31) (by decide) dL_law_30 ?_
      refine g_iandM (pc := 32) X 5 (by decide) (by decide) (by decide) dL_law_32 (fun z bz => ?_)
      by_cases hz : z < 0 ∨ 29 < z
      · refine g_tableOutI (pc := 33) X 1238 ⟨by omega, by omega⟩ hz (by decide) dL_law_33 ?_
        exact g_widen (k' := k + 40) (n' := n + 400) (by omega) (by omega) (tail np hb se nr tn ts prr ki ie Tb RC W M I J)
      · obtain z0 | z1 | z2 | z3 | z4 | z5 | z6 | z7 | z8 | z9 | z10 | z11 | z12 | z13 | z14 | z15 | z16 | z17 | z18 | z19 | z20 | z21 | z22 | z23 | z24 | z25 | z26 | z27 | z28 | z29 := (show z = 0 ∨ z = 1 ∨ z = 2 ∨ z = 3 ∨ z = 4 ∨ z = 5 ∨ z = 6 ∨ z = 7 ∨ z = 8 ∨ z = 9 ∨ z = 10 ∨ z = 11 ∨ z = 12 ∨ z = 13 ∨ z = 14 ∨ z = 15 ∨ z = 16 ∨ z = 17 ∨ z = 18 ∨ z = 19 ∨ z = 20 ∨ z = 21 ∨ z = 22 ∨ z = 23 ∨ z = 24 ∨ z = 25 ∨ z = 26 ∨ z = 27 ∨ z = 28 ∨ z = 29 by omega)
        · refine g_tableInI (pc := 33) X 168 ⟨by omega, by omega⟩ (by omega) (by omega) (by rw [z0]; rfl) (by decide) dL_law_33 ?_
          exact law_feed X hX hbl I J (by omega) hL (by omega) (by omega) tail
        · refine g_tableInI (pc := 33) X 231 ⟨by omega, by omega⟩ (by omega) (by omega) (by rw [z1]; rfl) (by decide) dL_law_33 ?_
          exact law_end X hX hbl I J (by omega) hL (by omega) (by omega) tail
        · refine g_tableInI (pc := 33) X 254 ⟨by omega, by omega⟩ (by omega) (by omega) (by rw [z2]; rfl) (by decide) dL_law_33 ?_
          exact law_fault X hX hbl I J (by omega) hL (by omega) (by omega) tail
        · refine g_tableInI (pc := 33) X 267 ⟨by omega, by omega⟩ (by omega) (by omega) (by rw [z3]; rfl) (by decide) dL_law_33 ?_
          exact law_room X hX hbl I J (by omega) hL (by omega) (by omega) tail
        · refine g_tableInI (pc := 33) X 280 ⟨by omega, by omega⟩ (by omega) (by omega) (by rw [z4]; rfl) (by decide) dL_law_33 ?_
          exact law_of X hX hbl I J (by omega) hL (by omega) (by omega) tail
        · refine g_tableInI (pc := 33) X 313 ⟨by omega, by omega⟩ (by omega) (by omega) (by rw [z5]; rfl) (by decide) dL_law_33 ?_
          exact law_height X hX hbl I J (by omega) hL (by omega) (by omega) tail
        · refine g_tableInI (pc := 33) X 346 ⟨by omega, by omega⟩ (by omega) (by omega) (by rw [z6]; rfl) (by decide) dL_law_33 ?_
          exact law_paper X hX hbl I J (by omega) hL (by omega) (by omega) tail
        · refine g_tableInI (pc := 33) X 409 ⟨by omega, by omega⟩ (by omega) (by omega) (by rw [z7]; rfl) (by decide) dL_law_33 ?_
          exact law_trim X hX hbl I J (by omega) hL (by omega) (by omega) tail
        · refine g_tableInI (pc := 33) X 432 ⟨by omega, by omega⟩ (by omega) (by omega) (by rw [z8]; rfl) (by decide) dL_law_33 ?_
          exact law_done X hX hbl I J (by omega) hL (by omega) (by omega) tail
        · refine g_tableInI (pc := 33) X 485 ⟨by omega, by omega⟩ (by omega) (by omega) (by rw [z9]; rfl) (by decide) dL_law_33 ?_
          exact law_strip X hX hbl I J (by omega) hL (by omega) (by omega) tail
        · refine g_tableInI (pc := 33) X 528 ⟨by omega, by omega⟩ (by omega) (by omega) (by rw [z10]; rfl) (by decide) dL_law_33 ?_
          exact law_piece X hX hbl I J (by omega) hL (by omega) (by omega) tail
        · refine g_tableInI (pc := 33) X 571 ⟨by omega, by omega⟩ (by omega) (by omega) (by rw [z11]; rfl) (by decide) dL_law_33 ?_
          exact law_rolls X hX hbl I J (by omega) hL (by omega) (by omega) tail
        · refine g_tableInI (pc := 33) X 604 ⟨by omega, by omega⟩ (by omega) (by omega) (by rw [z12]; rfl) (by decide) dL_law_33 ?_
          exact law_left X hX hbl I J (by omega) hL (by omega) (by omega) tail
        · refine g_tableInI (pc := 33) X 647 ⟨by omega, by omega⟩ (by omega) (by omega) (by rw [z13]; rfl) (by decide) dL_law_33 ?_
          exact law_faults X hX hbl I J (by omega) hL (by omega) (by omega) tail
        · refine g_tableInI (pc := 33) X 680 ⟨by omega, by omega⟩ (by omega) (by omega) (by rw [z14]; rfl) (by decide) dL_law_33 ?_
          exact law_best X hX hbl I J (by omega) hL (by omega) (by omega) tail
        · refine g_tableInI (pc := 33) X 733 ⟨by omega, by omega⟩ (by omega) (by omega) (by rw [z15]; rfl) (by decide) dL_law_33 ?_
          exact law_shown X hX hbl I J (by omega) hL (by omega) (by omega) tail
        · refine g_tableInI (pc := 33) X 766 ⟨by omega, by omega⟩ (by omega) (by omega) (by rw [z16]; rfl) (by decide) dL_law_33 ?_
          exact law_run X hX hbl I J (by omega) hL (by omega) (by omega) tail
        · refine g_tableInI (pc := 33) X 809 ⟨by omega, by omega⟩ (by omega) (by omega) (by rw [z17]; rfl) (by decide) dL_law_33 ?_
          exact law_cuts X hX hbl I J (by omega) hL (by omega) (by omega) tail
        · refine g_tableInI (pc := 33) X 832 ⟨by omega, by omega⟩ (by omega) (by omega) (by rw [z18]; rfl) (by decide) dL_law_33 ?_
          exact law_batch X hX hbl I J (by omega) hL (by omega) (by omega) tail
        · refine g_tableInI (pc := 33) X 865 ⟨by omega, by omega⟩ (by omega) (by omega) (by rw [z19]; rfl) (by decide) dL_law_33 ?_
          exact law_shared X hX hbl I J (by omega) hL (by omega) (by omega) tail
        · refine g_tableInI (pc := 33) X 898 ⟨by omega, by omega⟩ (by omega) (by omega) (by rw [z20]; rfl) (by decide) dL_law_33 ?_
          exact law_own X hX hbl I J (by omega) hL (by omega) (by omega) tail
        · refine g_tableInI (pc := 33) X 931 ⟨by omega, by omega⟩ (by omega) (by omega) (by rw [z21]; rfl) (by decide) dL_law_33 ?_
          exact law_all X hX hbl I J (by omega) hL (by omega) (by omega) tail
        · refine g_tableInI (pc := 33) X 954 ⟨by omega, by omega⟩ (by omega) (by omega) (by rw [z22]; rfl) (by decide) dL_law_33 ?_
          exact law_keep X hX hbl I J (by omega) hL (by omega) (by omega) tail
        · refine g_tableInI (pc := 33) X 997 ⟨by omega, by omega⟩ (by omega) (by omega) (by rw [z23]; rfl) (by decide) dL_law_33 ?_
          exact law_mended X hX hbl I J (by omega) hL (by omega) (by omega) tail
        · refine g_tableInI (pc := 33) X 1030 ⟨by omega, by omega⟩ (by omega) (by omega) (by rw [z24]; rfl) (by decide) dL_law_33 ?_
          exact law_border X hX hbl I J (by omega) hL (by omega) (by omega) tail
        · refine g_tableInI (pc := 33) X 1073 ⟨by omega, by omega⟩ (by omega) (by omega) (by rw [z25]; rfl) (by decide) dL_law_33 ?_
          exact law_day X hX hbl I J (by omega) hL (by omega) (by omega) tail
        · refine g_tableInI (pc := 33) X 1136 ⟨by omega, by omega⟩ (by omega) (by omega) (by rw [z26]; rfl) (by decide) dL_law_33 ?_
          exact law_hang X hX hbl I J (by omega) hL (by omega) (by omega) tail
        · refine g_tableInI (pc := 33) X 1169 ⟨by omega, by omega⟩ (by omega) (by omega) (by rw [z27]; rfl) (by decide) dL_law_33 ?_
          exact law_image X hX hbl I J (by omega) hL (by omega) (by omega) tail
        · refine g_tableInI (pc := 33) X 1192 ⟨by omega, by omega⟩ (by omega) (by omega) (by rw [z28]; rfl) (by decide) dL_law_33 ?_
          exact law_on X hX hbl I J (by omega) hL (by omega) (by omega) tail
        · refine g_tableInI (pc := 33) X 1215 ⟨by omega, by omega⟩ (by omega) (by omega) (by rw [z29]; rfl) (by decide) dL_law_33 ?_
          exact law_count X hX hbl I J (by omega) hL (by omega) (by omega) tail
