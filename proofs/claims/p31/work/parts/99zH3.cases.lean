set_option maxHeartbeats 4000000 in
set_option maxRecDepth 100000 in
theorem law_own {p : Program} {l : Launch} {e : Env} {s : State} {m : MethodId} {below : List Frame} {meth : Method} {c : Code} {b L : Nat} {xs : Nat → Int32} {Z : gZ} (X : Cx p s m #[Value.ref b] meth c cL_law 4 ret R_law Z (fun q => s.heap.size ≤ q)) (hX : va_X b L xs s s.heap) (hbl : b < s.heap.size) {o0 g0 k n : Nat} {i np hb se nr tn ts : Int} {prr ki ie Tb : Nat → Int} {RC : Nat → List (Nat → Int)} {W M : va_W} (I : cI Z o0 np hb se nr tn ts prr ki ie Tb RC W) (J : mI Z g0 np hb se nr tn ts prr ki ie Tb RC M) (hi : 0 ≤ i ∧ i + 6 ≤ (L : Int)) (hL : L ≤ 3072) (hk : k + 40 ≤ 600000) (hn : n + 400 ≤ 7302250) (kk : ∀ (np hb se nr tn ts : Int) (prr ki ie Tb : Nat → Int) (RC : Nat → List (Nat → Int)) (W M : va_W), cI Z o0 np hb se nr tn ts prr ki ie Tb RC W → mI Z g0 np hb se nr tn ts prr ki ie Tb RC M → Gs p l e room_1 s m #[Value.ref b] below meth c (lw_Z below #[Value.ref b] s) Z (fun q => s.heap.size ≤ q) 4 (k + 40) (n + 400) 1238 [(3, .int (iI i)), (2, .ref g0), (1, .ref o0), (0, .ref b)] [] (W ++ M)) : Gs p l e room_1 s m #[Value.ref b] below meth c (lw_Z below #[Value.ref b] s) Z (fun q => s.heap.size ≤ q) 4 k n 898 [(3, .int (iI i)), (2, .ref g0), (1, .ref o0), (0, .ref b)] [] (W ++ M) := by
  refine g_aload_n (pc := 898) X 2 rfl dL_law_898 ?_
  refine g_aload_n (pc := 899) X 3 rfl dL_law_899 ?_
  refine g_iload_n (pc := 900) X 0 rfl dL_law_900 ?_
  refine g_iconst (pc := 901) X (iI 1) (by rfl) dL_law_901 ?_
  refine g_iaddI (pc := 902) X dL_law_902 ?_
  refine g_sldI (pc := 903) X hX hbl (Nat.not_le.mpr hbl) (by omega) (by omega) (by omega) dL_law_903 (fun a1 ea1 b_a1 => ?_)
  refine g_aload_n (pc := 904) X 3 rfl dL_law_904 ?_
  refine g_iload_n (pc := 905) X 0 rfl dL_law_905 ?_
  refine g_iconst (pc := 906) X (iI 2) (by rfl) dL_law_906 ?_
  refine g_iaddI (pc := 907) X dL_law_907 ?_
  refine g_sldI (pc := 908) X hX hbl (Nat.not_le.mpr hbl) (by omega) (by omega) (by omega) dL_law_908 (fun a2 ea2 b_a2 => ?_)
  refine B_X11_own (pc := 909) X I b_a1 b_a2 mw_50_10 (Nat.le_of_ble_eq_true rfl) (Nat.le_of_ble_eq_true rfl) (Nat.le_of_ble_eq_true rfl) (show k + 40 ≤ 600000 by omega) (show n + 400 ≤ 7302250 by omega) dL_law_909 (fun y1 W2 hy1 I2 => ?_)
  refine g_pop (pc := 912) X rfl dL_law_912 ?_
  refine g_aload_n (pc := 913) X 1 rfl dL_law_913 ?_
  refine g_aload_n (pc := 914) X 3 rfl dL_law_914 ?_
  refine g_iload_n (pc := 915) X 0 rfl dL_law_915 ?_
  refine g_iconst (pc := 916) X (iI 1) (by rfl) dL_law_916 ?_
  refine g_iaddI (pc := 917) X dL_law_917 ?_
  refine g_sldE (pc := 918) X hX hbl (Nat.not_le.mpr hbl) ea1 (by omega) (by omega) (by omega) dL_law_918 ?_
  refine g_aload_n (pc := 919) X 3 rfl dL_law_919 ?_
  refine g_iload_n (pc := 920) X 0 rfl dL_law_920 ?_
  refine g_iconst (pc := 921) X (iI 2) (by rfl) dL_law_921 ?_
  refine g_iaddI (pc := 922) X dL_law_922 ?_
  refine g_sldE (pc := 923) X hX hbl (Nat.not_le.mpr hbl) ea2 (by omega) (by omega) (by omega) dL_law_923 ?_
  refine g_perm List.perm_append_comm ?_
  refine M_X12_own (pc := 924) X J b_a1 b_a2 mw_50_14 (Nat.le_of_ble_eq_true rfl) (Nat.le_of_ble_eq_true rfl) (Nat.le_of_ble_eq_true rfl) (show k + 40 ≤ 600000 by omega) (show n + 400 ≤ 7302250 by omega) dL_law_924 (fun y2 M2 hy2 J2 => ?_)
  refine g_perm List.perm_append_comm ?_
  refine g_pop (pc := 927) X rfl dL_law_927 ?_
  refine g_goto (pc := 928) X 1238 (by decide) dL_law_928 ?_
  exact kk np hb se nr tn ts prr ki ie Tb RC W2 M2 I2 J2

set_option maxHeartbeats 4000000 in
set_option maxRecDepth 100000 in
theorem law_all {p : Program} {l : Launch} {e : Env} {s : State} {m : MethodId} {below : List Frame} {meth : Method} {c : Code} {b L : Nat} {xs : Nat → Int32} {Z : gZ} (X : Cx p s m #[Value.ref b] meth c cL_law 4 ret R_law Z (fun q => s.heap.size ≤ q)) (hX : va_X b L xs s s.heap) (hbl : b < s.heap.size) {o0 g0 k n : Nat} {i np hb se nr tn ts : Int} {prr ki ie Tb : Nat → Int} {RC : Nat → List (Nat → Int)} {W M : va_W} (I : cI Z o0 np hb se nr tn ts prr ki ie Tb RC W) (J : mI Z g0 np hb se nr tn ts prr ki ie Tb RC M) (hi : 0 ≤ i ∧ i + 6 ≤ (L : Int)) (hL : L ≤ 3072) (hk : k + 40 ≤ 600000) (hn : n + 400 ≤ 7302250) (kk : ∀ (np hb se nr tn ts : Int) (prr ki ie Tb : Nat → Int) (RC : Nat → List (Nat → Int)) (W M : va_W), cI Z o0 np hb se nr tn ts prr ki ie Tb RC W → mI Z g0 np hb se nr tn ts prr ki ie Tb RC M → Gs p l e room_1 s m #[Value.ref b] below meth c (lw_Z below #[Value.ref b] s) Z (fun q => s.heap.size ≤ q) 4 (k + 40) (n + 400) 1238 [(3, .int (iI i)), (2, .ref g0), (1, .ref o0), (0, .ref b)] [] (W ++ M)) : Gs p l e room_1 s m #[Value.ref b] below meth c (lw_Z below #[Value.ref b] s) Z (fun q => s.heap.size ≤ q) 4 k n 931 [(3, .int (iI i)), (2, .ref g0), (1, .ref o0), (0, .ref b)] [] (W ++ M) := by
  refine g_aload_n (pc := 931) X 2 rfl dL_law_931 ?_
  refine g_aload_n (pc := 932) X 3 rfl dL_law_932 ?_
  refine g_iload_n (pc := 933) X 0 rfl dL_law_933 ?_
  refine g_iconst (pc := 934) X (iI 1) (by rfl) dL_law_934 ?_
  refine g_iaddI (pc := 935) X dL_law_935 ?_
  refine g_sldI (pc := 936) X hX hbl (Nat.not_le.mpr hbl) (by omega) (by omega) (by omega) dL_law_936 (fun a1 ea1 b_a1 => ?_)
  refine B_X11_all (pc := 937) X I b_a1 mw_50_18 (Nat.le_of_ble_eq_true rfl) (Nat.le_of_ble_eq_true rfl) (Nat.le_of_ble_eq_true rfl) (show k + 40 ≤ 600000 by omega) (show n + 400 ≤ 7302250 by omega) dL_law_937 (fun y1 W2 hy1 I2 => ?_)
  refine g_pop (pc := 940) X rfl dL_law_940 ?_
  refine g_aload_n (pc := 941) X 1 rfl dL_law_941 ?_
  refine g_aload_n (pc := 942) X 3 rfl dL_law_942 ?_
  refine g_iload_n (pc := 943) X 0 rfl dL_law_943 ?_
  refine g_iconst (pc := 944) X (iI 1) (by rfl) dL_law_944 ?_
  refine g_iaddI (pc := 945) X dL_law_945 ?_
  refine g_sldE (pc := 946) X hX hbl (Nat.not_le.mpr hbl) ea1 (by omega) (by omega) (by omega) dL_law_946 ?_
  refine g_perm List.perm_append_comm ?_
  refine M_X12_all (pc := 947) X J b_a1 mw_50_22 (Nat.le_of_ble_eq_true rfl) (Nat.le_of_ble_eq_true rfl) (Nat.le_of_ble_eq_true rfl) (show k + 40 ≤ 600000 by omega) (show n + 400 ≤ 7302250 by omega) dL_law_947 (fun y2 M2 hy2 J2 => ?_)
  refine g_perm List.perm_append_comm ?_
  refine g_pop (pc := 950) X rfl dL_law_950 ?_
  refine g_goto (pc := 951) X 1238 (by decide) dL_law_951 ?_
  exact kk np hb se nr tn ts prr ki ie Tb RC W2 M2 I2 J2

set_option maxHeartbeats 4000000 in
set_option maxRecDepth 100000 in
theorem law_keep {p : Program} {l : Launch} {e : Env} {s : State} {m : MethodId} {below : List Frame} {meth : Method} {c : Code} {b L : Nat} {xs : Nat → Int32} {Z : gZ} (X : Cx p s m #[Value.ref b] meth c cL_law 4 ret R_law Z (fun q => s.heap.size ≤ q)) (hX : va_X b L xs s s.heap) (hbl : b < s.heap.size) {o0 g0 k n : Nat} {i np hb se nr tn ts : Int} {prr ki ie Tb : Nat → Int} {RC : Nat → List (Nat → Int)} {W M : va_W} (I : cI Z o0 np hb se nr tn ts prr ki ie Tb RC W) (J : mI Z g0 np hb se nr tn ts prr ki ie Tb RC M) (hi : 0 ≤ i ∧ i + 6 ≤ (L : Int)) (hL : L ≤ 3072) (hk : k + 40 ≤ 600000) (hn : n + 400 ≤ 7302250) (kk : ∀ (np hb se nr tn ts : Int) (prr ki ie Tb : Nat → Int) (RC : Nat → List (Nat → Int)) (W M : va_W), cI Z o0 np hb se nr tn ts prr ki ie Tb RC W → mI Z g0 np hb se nr tn ts prr ki ie Tb RC M → Gs p l e room_1 s m #[Value.ref b] below meth c (lw_Z below #[Value.ref b] s) Z (fun q => s.heap.size ≤ q) 4 (k + 40) (n + 400) 1238 [(3, .int (iI i)), (2, .ref g0), (1, .ref o0), (0, .ref b)] [] (W ++ M)) : Gs p l e room_1 s m #[Value.ref b] below meth c (lw_Z below #[Value.ref b] s) Z (fun q => s.heap.size ≤ q) 4 k n 954 [(3, .int (iI i)), (2, .ref g0), (1, .ref o0), (0, .ref b)] [] (W ++ M) := by
  refine g_aload_n (pc := 954) X 2 rfl dL_law_954 ?_
  refine g_aload_n (pc := 955) X 3 rfl dL_law_955 ?_
  refine g_iload_n (pc := 956) X 0 rfl dL_law_956 ?_
  refine g_iconst (pc := 957) X (iI 1) (by rfl) dL_law_957 ?_
  refine g_iaddI (pc := 958) X dL_law_958 ?_
  refine g_sldI (pc := 959) X hX hbl (Nat.not_le.mpr hbl) (by omega) (by omega) (by omega) dL_law_959 (fun a1 ea1 b_a1 => ?_)
  refine g_aload_n (pc := 960) X 3 rfl dL_law_960 ?_
  refine g_iload_n (pc := 961) X 0 rfl dL_law_961 ?_
  refine g_iconst (pc := 962) X (iI 2) (by rfl) dL_law_962 ?_
  refine g_iaddI (pc := 963) X dL_law_963 ?_
  refine g_sldI (pc := 964) X hX hbl (Nat.not_le.mpr hbl) (by omega) (by omega) (by omega) dL_law_964 (fun a2 ea2 b_a2 => ?_)
  refine g_aload_n (pc := 965) X 3 rfl dL_law_965 ?_
  refine g_iload_n (pc := 966) X 0 rfl dL_law_966 ?_
  refine g_iconst (pc := 967) X (iI 3) (by rfl) dL_law_967 ?_
  refine g_iaddI (pc := 968) X dL_law_968 ?_
  refine g_sldI (pc := 969) X hX hbl (Nat.not_le.mpr hbl) (by omega) (by omega) (by omega) dL_law_969 (fun a3 ea3 b_a3 => ?_)
  refine B_X11_keep (pc := 970) X I b_a1 b_a2 b_a3 mw_51_2 (Nat.le_of_ble_eq_true rfl) (Nat.le_of_ble_eq_true rfl) (Nat.le_of_ble_eq_true rfl) (show k + 40 ≤ 600000 by omega) (show n + 400 ≤ 7302250 by omega) dL_law_970 (fun y1 W2 se2 hy1 I2 F1 => ?_)
  refine g_pop (pc := 973) X rfl dL_law_973 ?_
  refine g_aload_n (pc := 974) X 1 rfl dL_law_974 ?_
  refine g_aload_n (pc := 975) X 3 rfl dL_law_975 ?_
  refine g_iload_n (pc := 976) X 0 rfl dL_law_976 ?_
  refine g_iconst (pc := 977) X (iI 1) (by rfl) dL_law_977 ?_
  refine g_iaddI (pc := 978) X dL_law_978 ?_
  refine g_sldE (pc := 979) X hX hbl (Nat.not_le.mpr hbl) ea1 (by omega) (by omega) (by omega) dL_law_979 ?_
  refine g_aload_n (pc := 980) X 3 rfl dL_law_980 ?_
  refine g_iload_n (pc := 981) X 0 rfl dL_law_981 ?_
  refine g_iconst (pc := 982) X (iI 2) (by rfl) dL_law_982 ?_
  refine g_iaddI (pc := 983) X dL_law_983 ?_
  refine g_sldE (pc := 984) X hX hbl (Nat.not_le.mpr hbl) ea2 (by omega) (by omega) (by omega) dL_law_984 ?_
  refine g_aload_n (pc := 985) X 3 rfl dL_law_985 ?_
  refine g_iload_n (pc := 986) X 0 rfl dL_law_986 ?_
  refine g_iconst (pc := 987) X (iI 3) (by rfl) dL_law_987 ?_
  refine g_iaddI (pc := 988) X dL_law_988 ?_
  refine g_sldE (pc := 989) X hX hbl (Nat.not_le.mpr hbl) ea3 (by omega) (by omega) (by omega) dL_law_989 ?_
  refine g_perm List.perm_append_comm ?_
  refine M_X12_keep (pc := 990) X J b_a1 b_a2 b_a3 mw_51_11 (Nat.le_of_ble_eq_true rfl) (Nat.le_of_ble_eq_true rfl) (Nat.le_of_ble_eq_true rfl) (show k + 40 ≤ 600000 by omega) (show n + 400 ≤ 7302250 by omega) dL_law_990 (fun y2 M2 se3 hy2 J2 F2 => ?_)
  refine g_perm List.perm_append_comm ?_
  have hE : y1 = y2 ∧ se2 = se3 := by omega
  obtain ⟨hy, rfl⟩ := hE
  refine g_pop (pc := 993) X rfl dL_law_993 ?_
  refine g_goto (pc := 994) X 1238 (by decide) dL_law_994 ?_
  exact kk np hb se2 nr tn ts prr ki ie Tb RC W2 M2 I2 J2

set_option maxHeartbeats 4000000 in
set_option maxRecDepth 100000 in
theorem law_mended {p : Program} {l : Launch} {e : Env} {s : State} {m : MethodId} {below : List Frame} {meth : Method} {c : Code} {b L : Nat} {xs : Nat → Int32} {Z : gZ} (X : Cx p s m #[Value.ref b] meth c cL_law 4 ret R_law Z (fun q => s.heap.size ≤ q)) (hX : va_X b L xs s s.heap) (hbl : b < s.heap.size) {o0 g0 k n : Nat} {i np hb se nr tn ts : Int} {prr ki ie Tb : Nat → Int} {RC : Nat → List (Nat → Int)} {W M : va_W} (I : cI Z o0 np hb se nr tn ts prr ki ie Tb RC W) (J : mI Z g0 np hb se nr tn ts prr ki ie Tb RC M) (hi : 0 ≤ i ∧ i + 6 ≤ (L : Int)) (hL : L ≤ 3072) (hk : k + 40 ≤ 600000) (hn : n + 400 ≤ 7302250) (kk : ∀ (np hb se nr tn ts : Int) (prr ki ie Tb : Nat → Int) (RC : Nat → List (Nat → Int)) (W M : va_W), cI Z o0 np hb se nr tn ts prr ki ie Tb RC W → mI Z g0 np hb se nr tn ts prr ki ie Tb RC M → Gs p l e room_1 s m #[Value.ref b] below meth c (lw_Z below #[Value.ref b] s) Z (fun q => s.heap.size ≤ q) 4 (k + 40) (n + 400) 1238 [(3, .int (iI i)), (2, .ref g0), (1, .ref o0), (0, .ref b)] [] (W ++ M)) : Gs p l e room_1 s m #[Value.ref b] below meth c (lw_Z below #[Value.ref b] s) Z (fun q => s.heap.size ≤ q) 4 k n 997 [(3, .int (iI i)), (2, .ref g0), (1, .ref o0), (0, .ref b)] [] (W ++ M) := by
  refine g_aload_n (pc := 997) X 2 rfl dL_law_997 ?_
  refine g_aload_n (pc := 998) X 3 rfl dL_law_998 ?_
  refine g_iload_n (pc := 999) X 0 rfl dL_law_999 ?_
  refine g_iconst (pc := 1000) X (iI 1) (by rfl) dL_law_1000 ?_
  refine g_iaddI (pc := 1001) X dL_law_1001 ?_
  refine g_sldI (pc := 1002) X hX hbl (Nat.not_le.mpr hbl) (by omega) (by omega) (by omega) dL_law_1002 (fun a1 ea1 b_a1 => ?_)
  refine g_aload_n (pc := 1003) X 3 rfl dL_law_1003 ?_
  refine g_iload_n (pc := 1004) X 0 rfl dL_law_1004 ?_
  refine g_iconst (pc := 1005) X (iI 2) (by rfl) dL_law_1005 ?_
  refine g_iaddI (pc := 1006) X dL_law_1006 ?_
  refine g_sldI (pc := 1007) X hX hbl (Nat.not_le.mpr hbl) (by omega) (by omega) (by omega) dL_law_1007 (fun a2 ea2 b_a2 => ?_)
  refine B_X11_mended (pc := 1008) X I b_a1 b_a2 mw_51_16 (Nat.le_of_ble_eq_true rfl) (Nat.le_of_ble_eq_true rfl) (Nat.le_of_ble_eq_true rfl) (show k + 40 ≤ 600000 by omega) (show n + 400 ≤ 7302250 by omega) dL_law_1008 (fun y1 W2 hy1 I2 => ?_)
  refine g_pop (pc := 1011) X rfl dL_law_1011 ?_
  refine g_aload_n (pc := 1012) X 1 rfl dL_law_1012 ?_
  refine g_aload_n (pc := 1013) X 3 rfl dL_law_1013 ?_
  refine g_iload_n (pc := 1014) X 0 rfl dL_law_1014 ?_
  refine g_iconst (pc := 1015) X (iI 1) (by rfl) dL_law_1015 ?_
  refine g_iaddI (pc := 1016) X dL_law_1016 ?_
  refine g_sldE (pc := 1017) X hX hbl (Nat.not_le.mpr hbl) ea1 (by omega) (by omega) (by omega) dL_law_1017 ?_
  refine g_aload_n (pc := 1018) X 3 rfl dL_law_1018 ?_
  refine g_iload_n (pc := 1019) X 0 rfl dL_law_1019 ?_
  refine g_iconst (pc := 1020) X (iI 2) (by rfl) dL_law_1020 ?_
  refine g_iaddI (pc := 1021) X dL_law_1021 ?_
  refine g_sldE (pc := 1022) X hX hbl (Nat.not_le.mpr hbl) ea2 (by omega) (by omega) (by omega) dL_law_1022 ?_
  refine g_perm List.perm_append_comm ?_
  refine M_X12_mended (pc := 1023) X J b_a1 b_a2 mw_52_19 (Nat.le_of_ble_eq_true rfl) (Nat.le_of_ble_eq_true rfl) (Nat.le_of_ble_eq_true rfl) (show k + 40 ≤ 600000 by omega) (show n + 400 ≤ 7302250 by omega) dL_law_1023 (fun y2 M2 hy2 J2 => ?_)
  refine g_perm List.perm_append_comm ?_
  refine g_pop (pc := 1026) X rfl dL_law_1026 ?_
  refine g_goto (pc := 1027) X 1238 (by decide) dL_law_1027 ?_
  exact kk np hb se nr tn ts prr ki ie Tb RC W2 M2 I2 J2

set_option maxHeartbeats 4000000 in
set_option maxRecDepth 100000 in
theorem law_border {p : Program} {l : Launch} {e : Env} {s : State} {m : MethodId} {below : List Frame} {meth : Method} {c : Code} {b L : Nat} {xs : Nat → Int32} {Z : gZ} (X : Cx p s m #[Value.ref b] meth c cL_law 4 ret R_law Z (fun q => s.heap.size ≤ q)) (hX : va_X b L xs s s.heap) (hbl : b < s.heap.size) {o0 g0 k n : Nat} {i np hb se nr tn ts : Int} {prr ki ie Tb : Nat → Int} {RC : Nat → List (Nat → Int)} {W M : va_W} (I : cI Z o0 np hb se nr tn ts prr ki ie Tb RC W) (J : mI Z g0 np hb se nr tn ts prr ki ie Tb RC M) (hi : 0 ≤ i ∧ i + 6 ≤ (L : Int)) (hL : L ≤ 3072) (hk : k + 40 ≤ 600000) (hn : n + 400 ≤ 7302250) (kk : ∀ (np hb se nr tn ts : Int) (prr ki ie Tb : Nat → Int) (RC : Nat → List (Nat → Int)) (W M : va_W), cI Z o0 np hb se nr tn ts prr ki ie Tb RC W → mI Z g0 np hb se nr tn ts prr ki ie Tb RC M → Gs p l e room_1 s m #[Value.ref b] below meth c (lw_Z below #[Value.ref b] s) Z (fun q => s.heap.size ≤ q) 4 (k + 40) (n + 400) 1238 [(3, .int (iI i)), (2, .ref g0), (1, .ref o0), (0, .ref b)] [] (W ++ M)) : Gs p l e room_1 s m #[Value.ref b] below meth c (lw_Z below #[Value.ref b] s) Z (fun q => s.heap.size ≤ q) 4 k n 1030 [(3, .int (iI i)), (2, .ref g0), (1, .ref o0), (0, .ref b)] [] (W ++ M) := by
  refine g_aload_n (pc := 1030) X 2 rfl dL_law_1030 ?_
  refine g_aload_n (pc := 1031) X 3 rfl dL_law_1031 ?_
  refine g_iload_n (pc := 1032) X 0 rfl dL_law_1032 ?_
  refine g_iconst (pc := 1033) X (iI 1) (by rfl) dL_law_1033 ?_
  refine g_iaddI (pc := 1034) X dL_law_1034 ?_
  refine g_sldI (pc := 1035) X hX hbl (Nat.not_le.mpr hbl) (by omega) (by omega) (by omega) dL_law_1035 (fun a1 ea1 b_a1 => ?_)
  refine g_aload_n (pc := 1036) X 3 rfl dL_law_1036 ?_
  refine g_iload_n (pc := 1037) X 0 rfl dL_law_1037 ?_
  refine g_iconst (pc := 1038) X (iI 2) (by rfl) dL_law_1038 ?_
  refine g_iaddI (pc := 1039) X dL_law_1039 ?_
  refine g_sldI (pc := 1040) X hX hbl (Nat.not_le.mpr hbl) (by omega) (by omega) (by omega) dL_law_1040 (fun a2 ea2 b_a2 => ?_)
  refine g_aload_n (pc := 1041) X 3 rfl dL_law_1041 ?_
  refine g_iload_n (pc := 1042) X 0 rfl dL_law_1042 ?_
  refine g_iconst (pc := 1043) X (iI 3) (by rfl) dL_law_1043 ?_
  refine g_iaddI (pc := 1044) X dL_law_1044 ?_
  refine g_sldI (pc := 1045) X hX hbl (Nat.not_le.mpr hbl) (by omega) (by omega) (by omega) dL_law_1045 (fun a3 ea3 b_a3 => ?_)
  refine B_X11_border (pc := 1046) X I b_a1 b_a2 b_a3 mw_53_3 (Nat.le_of_ble_eq_true rfl) (Nat.le_of_ble_eq_true rfl) (Nat.le_of_ble_eq_true rfl) (show k + 40 ≤ 600000 by omega) (show n + 400 ≤ 7302250 by omega) dL_law_1046 (fun y1 W2 hy1 I2 F1 => ?_)
  refine g_pop (pc := 1049) X rfl dL_law_1049 ?_
  refine g_aload_n (pc := 1050) X 1 rfl dL_law_1050 ?_
  refine g_aload_n (pc := 1051) X 3 rfl dL_law_1051 ?_
  refine g_iload_n (pc := 1052) X 0 rfl dL_law_1052 ?_
  refine g_iconst (pc := 1053) X (iI 1) (by rfl) dL_law_1053 ?_
  refine g_iaddI (pc := 1054) X dL_law_1054 ?_
  refine g_sldE (pc := 1055) X hX hbl (Nat.not_le.mpr hbl) ea1 (by omega) (by omega) (by omega) dL_law_1055 ?_
  refine g_aload_n (pc := 1056) X 3 rfl dL_law_1056 ?_
  refine g_iload_n (pc := 1057) X 0 rfl dL_law_1057 ?_
  refine g_iconst (pc := 1058) X (iI 2) (by rfl) dL_law_1058 ?_
  refine g_iaddI (pc := 1059) X dL_law_1059 ?_
  refine g_sldE (pc := 1060) X hX hbl (Nat.not_le.mpr hbl) ea2 (by omega) (by omega) (by omega) dL_law_1060 ?_
  refine g_aload_n (pc := 1061) X 3 rfl dL_law_1061 ?_
  refine g_iload_n (pc := 1062) X 0 rfl dL_law_1062 ?_
  refine g_iconst (pc := 1063) X (iI 3) (by rfl) dL_law_1063 ?_
  refine g_iaddI (pc := 1064) X dL_law_1064 ?_
  refine g_sldE (pc := 1065) X hX hbl (Nat.not_le.mpr hbl) ea3 (by omega) (by omega) (by omega) dL_law_1065 ?_
  refine g_perm List.perm_append_comm ?_
  refine M_X12_border (pc := 1066) X J b_a1 b_a2 b_a3 mw_53_12 (Nat.le_of_ble_eq_true rfl) (Nat.le_of_ble_eq_true rfl) (Nat.le_of_ble_eq_true rfl) (show k + 40 ≤ 600000 by omega) (show n + 400 ≤ 7302250 by omega) dL_law_1066 (fun y2 M2 hy2 J2 F2 => ?_)
  refine g_perm List.perm_append_comm ?_
  have hy : y1 = y2 := pair_q F1 F2
  refine g_pop (pc := 1069) X rfl dL_law_1069 ?_
  refine g_goto (pc := 1070) X 1238 (by decide) dL_law_1070 ?_
  exact kk np hb se nr tn ts prr ki ie Tb RC W2 M2 I2 J2

set_option maxHeartbeats 4000000 in
set_option maxRecDepth 100000 in
theorem law_day {p : Program} {l : Launch} {e : Env} {s : State} {m : MethodId} {below : List Frame} {meth : Method} {c : Code} {b L : Nat} {xs : Nat → Int32} {Z : gZ} (X : Cx p s m #[Value.ref b] meth c cL_law 4 ret R_law Z (fun q => s.heap.size ≤ q)) (hX : va_X b L xs s s.heap) (hbl : b < s.heap.size) {o0 g0 k n : Nat} {i np hb se nr tn ts : Int} {prr ki ie Tb : Nat → Int} {RC : Nat → List (Nat → Int)} {W M : va_W} (I : cI Z o0 np hb se nr tn ts prr ki ie Tb RC W) (J : mI Z g0 np hb se nr tn ts prr ki ie Tb RC M) (hi : 0 ≤ i ∧ i + 6 ≤ (L : Int)) (hL : L ≤ 3072) (hk : k + 40 ≤ 600000) (hn : n + 400 ≤ 7302250) (kk : ∀ (np hb se nr tn ts : Int) (prr ki ie Tb : Nat → Int) (RC : Nat → List (Nat → Int)) (W M : va_W), cI Z o0 np hb se nr tn ts prr ki ie Tb RC W → mI Z g0 np hb se nr tn ts prr ki ie Tb RC M → Gs p l e room_1 s m #[Value.ref b] below meth c (lw_Z below #[Value.ref b] s) Z (fun q => s.heap.size ≤ q) 4 (k + 40) (n + 400) 1238 [(3, .int (iI i)), (2, .ref g0), (1, .ref o0), (0, .ref b)] [] (W ++ M)) : Gs p l e room_1 s m #[Value.ref b] below meth c (lw_Z below #[Value.ref b] s) Z (fun q => s.heap.size ≤ q) 4 k n 1073 [(3, .int (iI i)), (2, .ref g0), (1, .ref o0), (0, .ref b)] [] (W ++ M) := by
  refine g_aload_n (pc := 1073) X 2 rfl dL_law_1073 ?_
  refine g_aload_n (pc := 1074) X 3 rfl dL_law_1074 ?_
  refine g_iload_n (pc := 1075) X 0 rfl dL_law_1075 ?_
  refine g_iconst (pc := 1076) X (iI 1) (by rfl) dL_law_1076 ?_
  refine g_iaddI (pc := 1077) X dL_law_1077 ?_
  refine g_sldI (pc := 1078) X hX hbl (Nat.not_le.mpr hbl) (by omega) (by omega) (by omega) dL_law_1078 (fun a1 ea1 b_a1 => ?_)
  refine g_aload_n (pc := 1079) X 3 rfl dL_law_1079 ?_
  refine g_iload_n (pc := 1080) X 0 rfl dL_law_1080 ?_
  refine g_iconst (pc := 1081) X (iI 2) (by rfl) dL_law_1081 ?_
  refine g_iaddI (pc := 1082) X dL_law_1082 ?_
  refine g_sldI (pc := 1083) X hX hbl (Nat.not_le.mpr hbl) (by omega) (by omega) (by omega) dL_law_1083 (fun a2 ea2 b_a2 => ?_)
  refine g_aload_n (pc := 1084) X 3 rfl dL_law_1084 ?_
  refine g_iload_n (pc := 1085) X 0 rfl dL_law_1085 ?_
  refine g_iconst (pc := 1086) X (iI 3) (by rfl) dL_law_1086 ?_
  refine g_iaddI (pc := 1087) X dL_law_1087 ?_
  refine g_sldI (pc := 1088) X hX hbl (Nat.not_le.mpr hbl) (by omega) (by omega) (by omega) dL_law_1088 (fun a3 ea3 b_a3 => ?_)
  refine g_aload_n (pc := 1089) X 3 rfl dL_law_1089 ?_
  refine g_iload_n (pc := 1090) X 0 rfl dL_law_1090 ?_
  refine g_iconst (pc := 1091) X (iI 4) (by rfl) dL_law_1091 ?_
  refine g_iaddI (pc := 1092) X dL_law_1092 ?_
  refine g_sldI (pc := 1093) X hX hbl (Nat.not_le.mpr hbl) (by omega) (by omega) (by omega) dL_law_1093 (fun a4 ea4 b_a4 => ?_)
  refine g_aload_n (pc := 1094) X 3 rfl dL_law_1094 ?_
  refine g_iload_n (pc := 1095) X 0 rfl dL_law_1095 ?_
  refine g_iconst (pc := 1096) X (iI 5) (by rfl) dL_law_1096 ?_
  refine g_iaddI (pc := 1097) X dL_law_1097 ?_
  refine g_sldI (pc := 1098) X hX hbl (Nat.not_le.mpr hbl) (by omega) (by omega) (by omega) dL_law_1098 (fun a5 ea5 b_a5 => ?_)
  refine B_X11_day (pc := 1099) X I b_a1 b_a2 b_a3 b_a4 b_a5 mw_53_17 (Nat.le_of_ble_eq_true rfl) (Nat.le_of_ble_eq_true rfl) (Nat.le_of_ble_eq_true rfl) (show k + 40 ≤ 600000 by omega) (show n + 400 ≤ 7302250 by omega) dL_law_1099 (fun y1 W2 hy1 I2 => ?_)
  refine g_pop (pc := 1102) X rfl dL_law_1102 ?_
  refine g_aload_n (pc := 1103) X 1 rfl dL_law_1103 ?_
  refine g_aload_n (pc := 1104) X 3 rfl dL_law_1104 ?_
  refine g_iload_n (pc := 1105) X 0 rfl dL_law_1105 ?_
  refine g_iconst (pc := 1106) X (iI 1) (by rfl) dL_law_1106 ?_
  refine g_iaddI (pc := 1107) X dL_law_1107 ?_
  refine g_sldE (pc := 1108) X hX hbl (Nat.not_le.mpr hbl) ea1 (by omega) (by omega) (by omega) dL_law_1108 ?_
  refine g_aload_n (pc := 1109) X 3 rfl dL_law_1109 ?_
  refine g_iload_n (pc := 1110) X 0 rfl dL_law_1110 ?_
  refine g_iconst (pc := 1111) X (iI 2) (by rfl) dL_law_1111 ?_
  refine g_iaddI (pc := 1112) X dL_law_1112 ?_
  refine g_sldE (pc := 1113) X hX hbl (Nat.not_le.mpr hbl) ea2 (by omega) (by omega) (by omega) dL_law_1113 ?_
  refine g_aload_n (pc := 1114) X 3 rfl dL_law_1114 ?_
  refine g_iload_n (pc := 1115) X 0 rfl dL_law_1115 ?_
  refine g_iconst (pc := 1116) X (iI 3) (by rfl) dL_law_1116 ?_
  refine g_iaddI (pc := 1117) X dL_law_1117 ?_
  refine g_sldE (pc := 1118) X hX hbl (Nat.not_le.mpr hbl) ea3 (by omega) (by omega) (by omega) dL_law_1118 ?_
  refine g_aload_n (pc := 1119) X 3 rfl dL_law_1119 ?_
  refine g_iload_n (pc := 1120) X 0 rfl dL_law_1120 ?_
  refine g_iconst (pc := 1121) X (iI 4) (by rfl) dL_law_1121 ?_
  refine g_iaddI (pc := 1122) X dL_law_1122 ?_
  refine g_sldE (pc := 1123) X hX hbl (Nat.not_le.mpr hbl) ea4 (by omega) (by omega) (by omega) dL_law_1123 ?_
  refine g_aload_n (pc := 1124) X 3 rfl dL_law_1124 ?_
  refine g_iload_n (pc := 1125) X 0 rfl dL_law_1125 ?_
  refine g_iconst (pc := 1126) X (iI 5) (by rfl) dL_law_1126 ?_
  refine g_iaddI (pc := 1127) X dL_law_1127 ?_
  refine g_sldE (pc := 1128) X hX hbl (Nat.not_le.mpr hbl) ea5 (by omega) (by omega) (by omega) dL_law_1128 ?_
  refine g_perm List.perm_append_comm ?_
  refine M_X12_day (pc := 1129) X J b_a1 b_a2 b_a3 b_a4 b_a5 mw_54_21 (Nat.le_of_ble_eq_true rfl) (Nat.le_of_ble_eq_true rfl) (Nat.le_of_ble_eq_true rfl) (show k + 40 ≤ 600000 by omega) (show n + 400 ≤ 7302250 by omega) dL_law_1129 (fun y2 M2 hy2 J2 => ?_)
  refine g_perm List.perm_append_comm ?_
  refine g_pop (pc := 1132) X rfl dL_law_1132 ?_
  refine g_goto (pc := 1133) X 1238 (by decide) dL_law_1133 ?_
  exact kk np hb se nr tn ts prr ki ie Tb RC W2 M2 I2 J2

set_option maxHeartbeats 4000000 in
set_option maxRecDepth 100000 in
theorem law_hang {p : Program} {l : Launch} {e : Env} {s : State} {m : MethodId} {below : List Frame} {meth : Method} {c : Code} {b L : Nat} {xs : Nat → Int32} {Z : gZ} (X : Cx p s m #[Value.ref b] meth c cL_law 4 ret R_law Z (fun q => s.heap.size ≤ q)) (hX : va_X b L xs s s.heap) (hbl : b < s.heap.size) {o0 g0 k n : Nat} {i np hb se nr tn ts : Int} {prr ki ie Tb : Nat → Int} {RC : Nat → List (Nat → Int)} {W M : va_W} (I : cI Z o0 np hb se nr tn ts prr ki ie Tb RC W) (J : mI Z g0 np hb se nr tn ts prr ki ie Tb RC M) (hi : 0 ≤ i ∧ i + 6 ≤ (L : Int)) (hL : L ≤ 3072) (hk : k + 40 ≤ 600000) (hn : n + 400 ≤ 7302250) (kk : ∀ (np hb se nr tn ts : Int) (prr ki ie Tb : Nat → Int) (RC : Nat → List (Nat → Int)) (W M : va_W), cI Z o0 np hb se nr tn ts prr ki ie Tb RC W → mI Z g0 np hb se nr tn ts prr ki ie Tb RC M → Gs p l e room_1 s m #[Value.ref b] below meth c (lw_Z below #[Value.ref b] s) Z (fun q => s.heap.size ≤ q) 4 (k + 40) (n + 400) 1238 [(3, .int (iI i)), (2, .ref g0), (1, .ref o0), (0, .ref b)] [] (W ++ M)) : Gs p l e room_1 s m #[Value.ref b] below meth c (lw_Z below #[Value.ref b] s) Z (fun q => s.heap.size ≤ q) 4 k n 1136 [(3, .int (iI i)), (2, .ref g0), (1, .ref o0), (0, .ref b)] [] (W ++ M) := by
  refine g_aload_n (pc := 1136) X 2 rfl dL_law_1136 ?_
  refine g_aload_n (pc := 1137) X 3 rfl dL_law_1137 ?_
  refine g_iload_n (pc := 1138) X 0 rfl dL_law_1138 ?_
  refine g_iconst (pc := 1139) X (iI 1) (by rfl) dL_law_1139 ?_
  refine g_iaddI (pc := 1140) X dL_law_1140 ?_
  refine g_sldI (pc := 1141) X hX hbl (Nat.not_le.mpr hbl) (by omega) (by omega) (by omega) dL_law_1141 (fun a1 ea1 b_a1 => ?_)
  refine g_aload_n (pc := 1142) X 3 rfl dL_law_1142 ?_
  refine g_iload_n (pc := 1143) X 0 rfl dL_law_1143 ?_
  refine g_iconst (pc := 1144) X (iI 2) (by rfl) dL_law_1144 ?_
  refine g_iaddI (pc := 1145) X dL_law_1145 ?_
  refine g_sldI (pc := 1146) X hX hbl (Nat.not_le.mpr hbl) (by omega) (by omega) (by omega) dL_law_1146 (fun a2 ea2 b_a2 => ?_)
  refine B_X11_hang (pc := 1147) X I b_a1 b_a2 mw_55_6 (Nat.le_of_ble_eq_true rfl) (Nat.le_of_ble_eq_true rfl) (Nat.le_of_ble_eq_true rfl) (show k + 40 ≤ 600000 by omega) (show n + 400 ≤ 7302250 by omega) dL_law_1147 (fun y1 W2 hy1 I2 => ?_)
  refine g_pop (pc := 1150) X rfl dL_law_1150 ?_
  refine g_aload_n (pc := 1151) X 1 rfl dL_law_1151 ?_
  refine g_aload_n (pc := 1152) X 3 rfl dL_law_1152 ?_
  refine g_iload_n (pc := 1153) X 0 rfl dL_law_1153 ?_
  refine g_iconst (pc := 1154) X (iI 1) (by rfl) dL_law_1154 ?_
  refine g_iaddI (pc := 1155) X dL_law_1155 ?_
  refine g_sldE (pc := 1156) X hX hbl (Nat.not_le.mpr hbl) ea1 (by omega) (by omega) (by omega) dL_law_1156 ?_
  refine g_aload_n (pc := 1157) X 3 rfl dL_law_1157 ?_
  refine g_iload_n (pc := 1158) X 0 rfl dL_law_1158 ?_
  refine g_iconst (pc := 1159) X (iI 2) (by rfl) dL_law_1159 ?_
  refine g_iaddI (pc := 1160) X dL_law_1160 ?_
  refine g_sldE (pc := 1161) X hX hbl (Nat.not_le.mpr hbl) ea2 (by omega) (by omega) (by omega) dL_law_1161 ?_
  refine g_perm List.perm_append_comm ?_
  refine M_X12_hang (pc := 1162) X J b_a1 b_a2 mw_55_10 (Nat.le_of_ble_eq_true rfl) (Nat.le_of_ble_eq_true rfl) (Nat.le_of_ble_eq_true rfl) (show k + 40 ≤ 600000 by omega) (show n + 400 ≤ 7302250 by omega) dL_law_1162 (fun y2 M2 hy2 J2 => ?_)
  refine g_perm List.perm_append_comm ?_
  refine g_pop (pc := 1165) X rfl dL_law_1165 ?_
  refine g_goto (pc := 1166) X 1238 (by decide) dL_law_1166 ?_
  exact kk np hb se nr tn ts prr ki ie Tb RC W2 M2 I2 J2

set_option maxHeartbeats 4000000 in
set_option maxRecDepth 100000 in
theorem law_image {p : Program} {l : Launch} {e : Env} {s : State} {m : MethodId} {below : List Frame} {meth : Method} {c : Code} {b L : Nat} {xs : Nat → Int32} {Z : gZ} (X : Cx p s m #[Value.ref b] meth c cL_law 4 ret R_law Z (fun q => s.heap.size ≤ q)) (hX : va_X b L xs s s.heap) (hbl : b < s.heap.size) {o0 g0 k n : Nat} {i np hb se nr tn ts : Int} {prr ki ie Tb : Nat → Int} {RC : Nat → List (Nat → Int)} {W M : va_W} (I : cI Z o0 np hb se nr tn ts prr ki ie Tb RC W) (J : mI Z g0 np hb se nr tn ts prr ki ie Tb RC M) (hi : 0 ≤ i ∧ i + 6 ≤ (L : Int)) (hL : L ≤ 3072) (hk : k + 40 ≤ 600000) (hn : n + 400 ≤ 7302250) (kk : ∀ (np hb se nr tn ts : Int) (prr ki ie Tb : Nat → Int) (RC : Nat → List (Nat → Int)) (W M : va_W), cI Z o0 np hb se nr tn ts prr ki ie Tb RC W → mI Z g0 np hb se nr tn ts prr ki ie Tb RC M → Gs p l e room_1 s m #[Value.ref b] below meth c (lw_Z below #[Value.ref b] s) Z (fun q => s.heap.size ≤ q) 4 (k + 40) (n + 400) 1238 [(3, .int (iI i)), (2, .ref g0), (1, .ref o0), (0, .ref b)] [] (W ++ M)) : Gs p l e room_1 s m #[Value.ref b] below meth c (lw_Z below #[Value.ref b] s) Z (fun q => s.heap.size ≤ q) 4 k n 1169 [(3, .int (iI i)), (2, .ref g0), (1, .ref o0), (0, .ref b)] [] (W ++ M) := by
  refine g_aload_n (pc := 1169) X 2 rfl dL_law_1169 ?_
  refine g_aload_n (pc := 1170) X 3 rfl dL_law_1170 ?_
  refine g_iload_n (pc := 1171) X 0 rfl dL_law_1171 ?_
  refine g_iconst (pc := 1172) X (iI 1) (by rfl) dL_law_1172 ?_
  refine g_iaddI (pc := 1173) X dL_law_1173 ?_
  refine g_sldI (pc := 1174) X hX hbl (Nat.not_le.mpr hbl) (by omega) (by omega) (by omega) dL_law_1174 (fun a1 ea1 b_a1 => ?_)
  refine B_X11_image (pc := 1175) X I b_a1 mw_55_14 (Nat.le_of_ble_eq_true rfl) (Nat.le_of_ble_eq_true rfl) (Nat.le_of_ble_eq_true rfl) (show k + 40 ≤ 600000 by omega) (show n + 400 ≤ 7302250 by omega) dL_law_1175 (fun y1 W2 ki2 ie2 hy1 I2 F1 => ?_)
  refine g_pop (pc := 1178) X rfl dL_law_1178 ?_
  refine g_aload_n (pc := 1179) X 1 rfl dL_law_1179 ?_
  refine g_aload_n (pc := 1180) X 3 rfl dL_law_1180 ?_
  refine g_iload_n (pc := 1181) X 0 rfl dL_law_1181 ?_
  refine g_iconst (pc := 1182) X (iI 1) (by rfl) dL_law_1182 ?_
  refine g_iaddI (pc := 1183) X dL_law_1183 ?_
  refine g_sldE (pc := 1184) X hX hbl (Nat.not_le.mpr hbl) ea1 (by omega) (by omega) (by omega) dL_law_1184 ?_
  refine g_perm List.perm_append_comm ?_
  refine M_X12_image (pc := 1185) X J b_a1 mw_55_22 (Nat.le_of_ble_eq_true rfl) (Nat.le_of_ble_eq_true rfl) (Nat.le_of_ble_eq_true rfl) (show k + 40 ≤ 600000 by omega) (show n + 400 ≤ 7302250 by omega) dL_law_1185 (fun y2 M2 ki3 ie3 hy2 J2 F2 => ?_)
  refine g_perm List.perm_append_comm ?_
  have hE : y1 = y2 ∧ ki2 = ki3 ∧ ie2 = ie3 := pair_image F1 F2
  obtain ⟨hy, rfl, rfl⟩ := hE
  refine g_pop (pc := 1188) X rfl dL_law_1188 ?_
  refine g_goto (pc := 1189) X 1238 (by decide) dL_law_1189 ?_
  exact kk np hb se nr tn ts prr ki2 ie2 Tb RC W2 M2 I2 J2

set_option maxHeartbeats 4000000 in
set_option maxRecDepth 100000 in
theorem law_on {p : Program} {l : Launch} {e : Env} {s : State} {m : MethodId} {below : List Frame} {meth : Method} {c : Code} {b L : Nat} {xs : Nat → Int32} {Z : gZ} (X : Cx p s m #[Value.ref b] meth c cL_law 4 ret R_law Z (fun q => s.heap.size ≤ q)) (hX : va_X b L xs s s.heap) (hbl : b < s.heap.size) {o0 g0 k n : Nat} {i np hb se nr tn ts : Int} {prr ki ie Tb : Nat → Int} {RC : Nat → List (Nat → Int)} {W M : va_W} (I : cI Z o0 np hb se nr tn ts prr ki ie Tb RC W) (J : mI Z g0 np hb se nr tn ts prr ki ie Tb RC M) (hi : 0 ≤ i ∧ i + 6 ≤ (L : Int)) (hL : L ≤ 3072) (hk : k + 40 ≤ 600000) (hn : n + 400 ≤ 7302250) (kk : ∀ (np hb se nr tn ts : Int) (prr ki ie Tb : Nat → Int) (RC : Nat → List (Nat → Int)) (W M : va_W), cI Z o0 np hb se nr tn ts prr ki ie Tb RC W → mI Z g0 np hb se nr tn ts prr ki ie Tb RC M → Gs p l e room_1 s m #[Value.ref b] below meth c (lw_Z below #[Value.ref b] s) Z (fun q => s.heap.size ≤ q) 4 (k + 40) (n + 400) 1238 [(3, .int (iI i)), (2, .ref g0), (1, .ref o0), (0, .ref b)] [] (W ++ M)) : Gs p l e room_1 s m #[Value.ref b] below meth c (lw_Z below #[Value.ref b] s) Z (fun q => s.heap.size ≤ q) 4 k n 1192 [(3, .int (iI i)), (2, .ref g0), (1, .ref o0), (0, .ref b)] [] (W ++ M) := by
  refine g_aload_n (pc := 1192) X 2 rfl dL_law_1192 ?_
  refine g_aload_n (pc := 1193) X 3 rfl dL_law_1193 ?_
  refine g_iload_n (pc := 1194) X 0 rfl dL_law_1194 ?_
  refine g_iconst (pc := 1195) X (iI 1) (by rfl) dL_law_1195 ?_
  refine g_iaddI (pc := 1196) X dL_law_1196 ?_
  refine g_sldI (pc := 1197) X hX hbl (Nat.not_le.mpr hbl) (by omega) (by omega) (by omega) dL_law_1197 (fun a1 ea1 b_a1 => ?_)
  refine B_X11_on (pc := 1198) X I b_a1 mw_56_2 (Nat.le_of_ble_eq_true rfl) (Nat.le_of_ble_eq_true rfl) (Nat.le_of_ble_eq_true rfl) (show k + 40 ≤ 600000 by omega) (show n + 400 ≤ 7302250 by omega) dL_law_1198 (fun y1 W2 se2 hy1 I2 F1 => ?_)
  refine g_pop (pc := 1201) X rfl dL_law_1201 ?_
  refine g_aload_n (pc := 1202) X 1 rfl dL_law_1202 ?_
  refine g_aload_n (pc := 1203) X 3 rfl dL_law_1203 ?_
  refine g_iload_n (pc := 1204) X 0 rfl dL_law_1204 ?_
  refine g_iconst (pc := 1205) X (iI 1) (by rfl) dL_law_1205 ?_
  refine g_iaddI (pc := 1206) X dL_law_1206 ?_
  refine g_sldE (pc := 1207) X hX hbl (Nat.not_le.mpr hbl) ea1 (by omega) (by omega) (by omega) dL_law_1207 ?_
  refine g_perm List.perm_append_comm ?_
  refine M_X12_on (pc := 1208) X J b_a1 mw_56_6 (Nat.le_of_ble_eq_true rfl) (Nat.le_of_ble_eq_true rfl) (Nat.le_of_ble_eq_true rfl) (show k + 40 ≤ 600000 by omega) (show n + 400 ≤ 7302250 by omega) dL_law_1208 (fun y2 M2 se3 hy2 J2 F2 => ?_)
  refine g_perm List.perm_append_comm ?_
  have hE : y1 = y2 ∧ se2 = se3 := by omega
  obtain ⟨hy, rfl⟩ := hE
  refine g_pop (pc := 1211) X rfl dL_law_1211 ?_
  refine g_goto (pc := 1212) X 1238 (by decide) dL_law_1212 ?_
  exact kk np hb se2 nr tn ts prr ki ie Tb RC W2 M2 I2 J2

set_option maxHeartbeats 4000000 in
set_option maxRecDepth 100000 in
theorem law_count {p : Program} {l : Launch} {e : Env} {s : State} {m : MethodId} {below : List Frame} {meth : Method} {c : Code} {b L : Nat} {xs : Nat → Int32} {Z : gZ} (X : Cx p s m #[Value.ref b] meth c cL_law 4 ret R_law Z (fun q => s.heap.size ≤ q)) (hX : va_X b L xs s s.heap) (hbl : b < s.heap.size) {o0 g0 k n : Nat} {i np hb se nr tn ts : Int} {prr ki ie Tb : Nat → Int} {RC : Nat → List (Nat → Int)} {W M : va_W} (I : cI Z o0 np hb se nr tn ts prr ki ie Tb RC W) (J : mI Z g0 np hb se nr tn ts prr ki ie Tb RC M) (hi : 0 ≤ i ∧ i + 6 ≤ (L : Int)) (hL : L ≤ 3072) (hk : k + 40 ≤ 600000) (hn : n + 400 ≤ 7302250) (kk : ∀ (np hb se nr tn ts : Int) (prr ki ie Tb : Nat → Int) (RC : Nat → List (Nat → Int)) (W M : va_W), cI Z o0 np hb se nr tn ts prr ki ie Tb RC W → mI Z g0 np hb se nr tn ts prr ki ie Tb RC M → Gs p l e room_1 s m #[Value.ref b] below meth c (lw_Z below #[Value.ref b] s) Z (fun q => s.heap.size ≤ q) 4 (k + 40) (n + 400) 1238 [(3, .int (iI i)), (2, .ref g0), (1, .ref o0), (0, .ref b)] [] (W ++ M)) : Gs p l e room_1 s m #[Value.ref b] below meth c (lw_Z below #[Value.ref b] s) Z (fun q => s.heap.size ≤ q) 4 k n 1215 [(3, .int (iI i)), (2, .ref g0), (1, .ref o0), (0, .ref b)] [] (W ++ M) := by
  refine g_aload_n (pc := 1215) X 2 rfl dL_law_1215 ?_
  refine g_aload_n (pc := 1216) X 3 rfl dL_law_1216 ?_
  refine g_iload_n (pc := 1217) X 0 rfl dL_law_1217 ?_
  refine g_iconst (pc := 1218) X (iI 1) (by rfl) dL_law_1218 ?_
  refine g_iaddI (pc := 1219) X dL_law_1219 ?_
  refine g_sldI (pc := 1220) X hX hbl (Nat.not_le.mpr hbl) (by omega) (by omega) (by omega) dL_law_1220 (fun a1 ea1 b_a1 => ?_)
  refine B_X11_count (pc := 1221) X I b_a1 mw_56_10 (Nat.le_of_ble_eq_true rfl) (Nat.le_of_ble_eq_true rfl) (Nat.le_of_ble_eq_true rfl) (show k + 40 ≤ 600000 by omega) (show n + 400 ≤ 7302250 by omega) dL_law_1221 (fun y1 W2 hy1 I2 F1 => ?_)
  refine g_aload_n (pc := 1224) X 1 rfl dL_law_1224 ?_
  refine g_aload_n (pc := 1225) X 3 rfl dL_law_1225 ?_
  refine g_iload_n (pc := 1226) X 0 rfl dL_law_1226 ?_
  refine g_iconst (pc := 1227) X (iI 1) (by rfl) dL_law_1227 ?_
  refine g_iaddI (pc := 1228) X dL_law_1228 ?_
  refine g_sldE (pc := 1229) X hX hbl (Nat.not_le.mpr hbl) ea1 (by omega) (by omega) (by omega) dL_law_1229 ?_
  refine g_perm List.perm_append_comm ?_
  refine M_X12_count (pc := 1230) X J b_a1 mw_56_16 (Nat.le_of_ble_eq_true rfl) (Nat.le_of_ble_eq_true rfl) (Nat.le_of_ble_eq_true rfl) (show k + 40 ≤ 600000 by omega) (show n + 400 ≤ 7302250 by omega) dL_law_1230 (fun y2 M2 hy2 J2 F2 => ?_)
  refine g_perm List.perm_append_comm ?_
  have hy : y1 = y2 := pair_count F1 F2
  refine g_icmp_eqI (pc := 1233) X 1238 (by decide) hy1 hy2 dL_law_1233 (fun _ => ?_) (fun h => absurd hy h)
  exact kk np hb se nr tn ts prr ki ie Tb RC W2 M2 I2 J2
