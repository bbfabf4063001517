section
-- ===== PART A: goes FIRST, ahead of the names: the tables' words, and 'selects' of the private methods out of them =====
/-- a private method of a class that the tables say can be made, by its rows of tables_1 -/
def lw_okq (q : MethodName × Nat) : Prop := (q.1.cls ≠ "java/lang/invoke/MethodHandle" ∧ q.1.cls ≠ "java/lang/invoke/VarHandle") ∧ Cond.instantiable q.1.cls q.2 ∈ tables_1 ∧ Cond.privateMethod q.1 ∈ tables_1 ∧ Cond.instanceMethod q.1 ∈ tables_1
theorem lw_p0 : lw_okq (⟨"HalfDrop$Text", "endOf", "(III)I"⟩, 6) := ⟨⟨by decide +kernel, by decide +kernel⟩, List.mem_of_getElem? (i := 29) (by decide +kernel), List.mem_of_getElem? (i := 514) (by decide +kernel), List.mem_of_getElem? (i := 515) (by decide +kernel)⟩
theorem lw_p1 : lw_okq (⟨"HalfDrop$Text", "wordKind", "(II)I"⟩, 6) := ⟨⟨by decide +kernel, by decide +kernel⟩, List.mem_of_getElem? (i := 29) (by decide +kernel), List.mem_of_getElem? (i := 518) (by decide +kernel), List.mem_of_getElem? (i := 519) (by decide +kernel)⟩
theorem lw_p2 : lw_okq (⟨"HalfDrop$Text", "spells", "(Ljava/lang/String;II)Z"⟩, 6) := ⟨⟨by decide +kernel, by decide +kernel⟩, List.mem_of_getElem? (i := 29) (by decide +kernel), List.mem_of_getElem? (i := 523) (by decide +kernel), List.mem_of_getElem? (i := 524) (by decide +kernel)⟩
theorem lw_p3 : lw_okq (⟨"HalfDrop$Text", "addToken", "(III)V"⟩, 6) := ⟨⟨by decide +kernel, by decide +kernel⟩, List.mem_of_getElem? (i := 29) (by decide +kernel), List.mem_of_getElem? (i := 579) (by decide +kernel), List.mem_of_getElem? (i := 580) (by decide +kernel)⟩
theorem lw_p4 : lw_okq (⟨"HalfDrop$Text", "numberFrom", "(II)I"⟩, 6) := ⟨⟨by decide +kernel, by decide +kernel⟩, List.mem_of_getElem? (i := 29) (by decide +kernel), List.mem_of_getElem? (i := 583) (by decide +kernel), List.mem_of_getElem? (i := 584) (by decide +kernel)⟩
theorem lw_p5 : lw_okq (⟨"HalfDrop$Reader", "isNext", "(I)Z"⟩, 3) := ⟨⟨by decide +kernel, by decide +kernel⟩, List.mem_of_getElem? (i := 61) (by decide +kernel), List.mem_of_getElem? (i := 605) (by decide +kernel), List.mem_of_getElem? (i := 606) (by decide +kernel)⟩
theorem lw_p6 : lw_okq (⟨"HalfDrop$Reader", "readLine", "()Z"⟩, 3) := ⟨⟨by decide +kernel, by decide +kernel⟩, List.mem_of_getElem? (i := 61) (by decide +kernel), List.mem_of_getElem? (i := 609) (by decide +kernel), List.mem_of_getElem? (i := 610) (by decide +kernel)⟩
theorem lw_p7 : lw_okq (⟨"HalfDrop$Reader", "readWall", "()Z"⟩, 3) := ⟨⟨by decide +kernel, by decide +kernel⟩, List.mem_of_getElem? (i := 61) (by decide +kernel), List.mem_of_getElem? (i := 613) (by decide +kernel), List.mem_of_getElem? (i := 614) (by decide +kernel)⟩
theorem lw_p8 : lw_okq (⟨"HalfDrop$Reader", "readNumber", "(II)I"⟩, 3) := ⟨⟨by decide +kernel, by decide +kernel⟩, List.mem_of_getElem? (i := 61) (by decide +kernel), List.mem_of_getElem? (i := 617) (by decide +kernel), List.mem_of_getElem? (i := 618) (by decide +kernel)⟩
theorem lw_p9 : lw_okq (⟨"HalfDrop$Reader", "readSign", "(I)Z"⟩, 3) := ⟨⟨by decide +kernel, by decide +kernel⟩, List.mem_of_getElem? (i := 61) (by decide +kernel), List.mem_of_getElem? (i := 622) (by decide +kernel), List.mem_of_getElem? (i := 623) (by decide +kernel)⟩
theorem lw_p10 : lw_okq (⟨"HalfDrop$Reader", "readDoor", "()Z"⟩, 3) := ⟨⟨by decide +kernel, by decide +kernel⟩, List.mem_of_getElem? (i := 61) (by decide +kernel), List.mem_of_getElem? (i := 630) (by decide +kernel), List.mem_of_getElem? (i := 631) (by decide +kernel)⟩
theorem lw_p11 : lw_okq (⟨"HalfDrop$Reader", "readWindow", "()Z"⟩, 3) := ⟨⟨by decide +kernel, by decide +kernel⟩, List.mem_of_getElem? (i := 61) (by decide +kernel), List.mem_of_getElem? (i := 651) (by decide +kernel), List.mem_of_getElem? (i := 652) (by decide +kernel)⟩
theorem lw_p12 : lw_okq (⟨"HalfDrop$Reader", "readLean", "()Z"⟩, 3) := ⟨⟨by decide +kernel, by decide +kernel⟩, List.mem_of_getElem? (i := 61) (by decide +kernel), List.mem_of_getElem? (i := 655) (by decide +kernel), List.mem_of_getElem? (i := 656) (by decide +kernel)⟩
theorem lw_p13 : lw_okq (⟨"HalfDrop$Reader", "readStand", "()Z"⟩, 3) := ⟨⟨by decide +kernel, by decide +kernel⟩, List.mem_of_getElem? (i := 61) (by decide +kernel), List.mem_of_getElem? (i := 667) (by decide +kernel), List.mem_of_getElem? (i := 668) (by decide +kernel)⟩
theorem lw_p14 : lw_okq (⟨"HalfDrop$Reader", "placeOfNext", "()I"⟩, 3) := ⟨⟨by decide +kernel, by decide +kernel⟩, List.mem_of_getElem? (i := 61) (by decide +kernel), List.mem_of_getElem? (i := 675) (by decide +kernel), List.mem_of_getElem? (i := 676) (by decide +kernel)⟩
theorem lw_p15 : lw_okq (⟨"HalfDrop", "roomAt", "(I)LHalfDrop$Room;"⟩, 15) := ⟨⟨by decide +kernel, by decide +kernel⟩, List.mem_of_getElem? (i := 21) (by decide +kernel), List.mem_of_getElem? (i := 688) (by decide +kernel), List.mem_of_getElem? (i := 689) (by decide +kernel)⟩
def lw_privs_1 : List (MethodName × Nat) := [(⟨"HalfDrop$Text", "endOf", "(III)I"⟩, 6), (⟨"HalfDrop$Text", "wordKind", "(II)I"⟩, 6), (⟨"HalfDrop$Text", "spells", "(Ljava/lang/String;II)Z"⟩, 6), (⟨"HalfDrop$Text", "addToken", "(III)V"⟩, 6), (⟨"HalfDrop$Text", "numberFrom", "(II)I"⟩, 6), (⟨"HalfDrop$Reader", "isNext", "(I)Z"⟩, 3), (⟨"HalfDrop$Reader", "readLine", "()Z"⟩, 3), (⟨"HalfDrop$Reader", "readWall", "()Z"⟩, 3), (⟨"HalfDrop$Reader", "readNumber", "(II)I"⟩, 3), (⟨"HalfDrop$Reader", "readSign", "(I)Z"⟩, 3), (⟨"HalfDrop$Reader", "readDoor", "()Z"⟩, 3), (⟨"HalfDrop$Reader", "readWindow", "()Z"⟩, 3), (⟨"HalfDrop$Reader", "readLean", "()Z"⟩, 3), (⟨"HalfDrop$Reader", "readStand", "()Z"⟩, 3), (⟨"HalfDrop$Reader", "placeOfNext", "()I"⟩, 3), (⟨"HalfDrop", "roomAt", "(I)LHalfDrop$Room;"⟩, 15)]
theorem lw_r1 : ∀ q ∈ lw_privs_1, lw_okq q := List.forall_mem_cons.mpr ⟨lw_p0, List.forall_mem_cons.mpr ⟨lw_p1, List.forall_mem_cons.mpr ⟨lw_p2, List.forall_mem_cons.mpr ⟨lw_p3, List.forall_mem_cons.mpr ⟨lw_p4, List.forall_mem_cons.mpr ⟨lw_p5, List.forall_mem_cons.mpr ⟨lw_p6, List.forall_mem_cons.mpr ⟨lw_p7, List.forall_mem_cons.mpr ⟨lw_p8, List.forall_mem_cons.mpr ⟨lw_p9, List.forall_mem_cons.mpr ⟨lw_p10, List.forall_mem_cons.mpr ⟨lw_p11, List.forall_mem_cons.mpr ⟨lw_p12, List.forall_mem_cons.mpr ⟨lw_p13, List.forall_mem_cons.mpr ⟨lw_p14, List.forall_mem_cons.mpr ⟨lw_p15, fun _ h => absurd h List.not_mem_nil⟩⟩⟩⟩⟩⟩⟩⟩⟩⟩⟩⟩⟩⟩⟩⟩
theorem lw_p16 : lw_okq (⟨"HalfDrop", "lay", "(I)Z"⟩, 15) := ⟨⟨by decide +kernel, by decide +kernel⟩, List.mem_of_getElem? (i := 21) (by decide +kernel), List.mem_of_getElem? (i := 693) (by decide +kernel), List.mem_of_getElem? (i := 694) (by decide +kernel)⟩
theorem lw_p17 : lw_okq (⟨"HalfDrop", "paperAt", "(I)LHalfDrop$Paper;"⟩, 15) := ⟨⟨by decide +kernel, by decide +kernel⟩, List.mem_of_getElem? (i := 21) (by decide +kernel), List.mem_of_getElem? (i := 697) (by decide +kernel), List.mem_of_getElem? (i := 698) (by decide +kernel)⟩
theorem lw_p18 : lw_okq (⟨"HalfDrop$Layout", "measure", "(I)I"⟩, 16) := ⟨⟨by decide +kernel, by decide +kernel⟩, List.mem_of_getElem? (i := 118) (by decide +kernel), List.mem_of_getElem? (i := 713) (by decide +kernel), List.mem_of_getElem? (i := 714) (by decide +kernel)⟩
theorem lw_p19 : lw_okq (⟨"HalfDrop$Room", "lies", "(III)Z"⟩, 12) := ⟨⟨by decide +kernel, by decide +kernel⟩, List.mem_of_getElem? (i := 341) (by decide +kernel), List.mem_of_getElem? (i := 753) (by decide +kernel), List.mem_of_getElem? (i := 754) (by decide +kernel)⟩
theorem lw_p20 : lw_okq (⟨"HalfDrop$Layout", "addPieces", "(II)V"⟩, 16) := ⟨⟨by decide +kernel, by decide +kernel⟩, List.mem_of_getElem? (i := 118) (by decide +kernel), List.mem_of_getElem? (i := 758) (by decide +kernel), List.mem_of_getElem? (i := 759) (by decide +kernel)⟩
theorem lw_p21 : lw_okq (⟨"HalfDrop$Layout", "addPiece", "(IIII)V"⟩, 16) := ⟨⟨by decide +kernel, by decide +kernel⟩, List.mem_of_getElem? (i := 118) (by decide +kernel), List.mem_of_getElem? (i := 771) (by decide +kernel), List.mem_of_getElem? (i := 772) (by decide +kernel)⟩
theorem lw_p22 : lw_okq (⟨"HalfDrop", "cutWholeRoom", "()Z"⟩, 15) := ⟨⟨by decide +kernel, by decide +kernel⟩, List.mem_of_getElem? (i := 21) (by decide +kernel), List.mem_of_getElem? (i := 859) (by decide +kernel), List.mem_of_getElem? (i := 860) (by decide +kernel)⟩
theorem lw_p23 : lw_okq (⟨"HalfDrop$Rolls", "take", "(III)V"⟩, 8) := ⟨⟨by decide +kernel, by decide +kernel⟩, List.mem_of_getElem? (i := 193) (by decide +kernel), List.mem_of_getElem? (i := 879) (by decide +kernel), List.mem_of_getElem? (i := 880) (by decide +kernel)⟩
theorem lw_p24 : lw_okq (⟨"HalfDrop$Rolls", "leastFor", "(II)I"⟩, 8) := ⟨⟨by decide +kernel, by decide +kernel⟩, List.mem_of_getElem? (i := 193) (by decide +kernel), List.mem_of_getElem? (i := 891) (by decide +kernel), List.mem_of_getElem? (i := 892) (by decide +kernel)⟩
theorem lw_p25 : lw_okq (⟨"HalfDrop$Rolls", "behind", "(II)I"⟩, 8) := ⟨⟨by decide +kernel, by decide +kernel⟩, List.mem_of_getElem? (i := 193) (by decide +kernel), List.mem_of_getElem? (i := 895) (by decide +kernel), List.mem_of_getElem? (i := 896) (by decide +kernel)⟩
theorem lw_p26 : lw_okq (⟨"HalfDrop$Judge", "wholeFigures", "(I)I"⟩, 9) := ⟨⟨by decide +kernel, by decide +kernel⟩, List.mem_of_getElem? (i := 228) (by decide +kernel), List.mem_of_getElem? (i := 920) (by decide +kernel), List.mem_of_getElem? (i := 921) (by decide +kernel)⟩
theorem lw_p27 : lw_okq (⟨"HalfDrop$Judge", "standsClear", "(III)Z"⟩, 9) := ⟨⟨by decide +kernel, by decide +kernel⟩, List.mem_of_getElem? (i := 228) (by decide +kernel), List.mem_of_getElem? (i := 932) (by decide +kernel), List.mem_of_getElem? (i := 933) (by decide +kernel)⟩
theorem lw_p28 : lw_okq (⟨"HalfDrop$Judge", "figureIsWhole", "(IIII)Z"⟩, 9) := ⟨⟨by decide +kernel, by decide +kernel⟩, List.mem_of_getElem? (i := 228) (by decide +kernel), List.mem_of_getElem? (i := 944) (by decide +kernel), List.mem_of_getElem? (i := 945) (by decide +kernel)⟩
theorem lw_p29 : lw_okq (⟨"HalfDrop$Judge", "standsWithin", "(II)I"⟩, 9) := ⟨⟨by decide +kernel, by decide +kernel⟩, List.mem_of_getElem? (i := 228) (by decide +kernel), List.mem_of_getElem? (i := 953) (by decide +kernel), List.mem_of_getElem? (i := 954) (by decide +kernel)⟩
theorem lw_p30 : lw_okq (⟨"HalfDrop$Judge", "wholeStands", "(III)I"⟩, 9) := ⟨⟨by decide +kernel, by decide +kernel⟩, List.mem_of_getElem? (i := 228) (by decide +kernel), List.mem_of_getElem? (i := 958) (by decide +kernel), List.mem_of_getElem? (i := 959) (by decide +kernel)⟩
theorem lw_p31 : lw_okq (⟨"HalfDrop$Judge", "judgeStart", "(II)V"⟩, 9) := ⟨⟨by decide +kernel, by decide +kernel⟩, List.mem_of_getElem? (i := 228) (by decide +kernel), List.mem_of_getElem? (i := 989) (by decide +kernel), List.mem_of_getElem? (i := 990) (by decide +kernel)⟩
def lw_privs_2 : List (MethodName × Nat) := [(⟨"HalfDrop", "lay", "(I)Z"⟩, 15), (⟨"HalfDrop", "paperAt", "(I)LHalfDrop$Paper;"⟩, 15), (⟨"HalfDrop$Layout", "measure", "(I)I"⟩, 16), (⟨"HalfDrop$Room", "lies", "(III)Z"⟩, 12), (⟨"HalfDrop$Layout", "addPieces", "(II)V"⟩, 16), (⟨"HalfDrop$Layout", "addPiece", "(IIII)V"⟩, 16), (⟨"HalfDrop", "cutWholeRoom", "()Z"⟩, 15), (⟨"HalfDrop$Rolls", "take", "(III)V"⟩, 8), (⟨"HalfDrop$Rolls", "leastFor", "(II)I"⟩, 8), (⟨"HalfDrop$Rolls", "behind", "(II)I"⟩, 8), (⟨"HalfDrop$Judge", "wholeFigures", "(I)I"⟩, 9), (⟨"HalfDrop$Judge", "standsClear", "(III)Z"⟩, 9), (⟨"HalfDrop$Judge", "figureIsWhole", "(IIII)Z"⟩, 9), (⟨"HalfDrop$Judge", "standsWithin", "(II)I"⟩, 9), (⟨"HalfDrop$Judge", "wholeStands", "(III)I"⟩, 9), (⟨"HalfDrop$Judge", "judgeStart", "(II)V"⟩, 9)]
theorem lw_r2 : ∀ q ∈ lw_privs_2, lw_okq q := List.forall_mem_cons.mpr ⟨lw_p16, List.forall_mem_cons.mpr ⟨lw_p17, List.forall_mem_cons.mpr ⟨lw_p18, List.forall_mem_cons.mpr ⟨lw_p19, List.forall_mem_cons.mpr ⟨lw_p20, List.forall_mem_cons.mpr ⟨lw_p21, List.forall_mem_cons.mpr ⟨lw_p22, List.forall_mem_cons.mpr ⟨lw_p23, List.forall_mem_cons.mpr ⟨lw_p24, List.forall_mem_cons.mpr ⟨lw_p25, List.forall_mem_cons.mpr ⟨lw_p26, List.forall_mem_cons.mpr ⟨lw_p27, List.forall_mem_cons.mpr ⟨lw_p28, List.forall_mem_cons.mpr ⟨lw_p29, List.forall_mem_cons.mpr ⟨lw_p30, List.forall_mem_cons.mpr ⟨lw_p31, fun _ h => absurd h List.not_mem_nil⟩⟩⟩⟩⟩⟩⟩⟩⟩⟩⟩⟩⟩⟩⟩⟩
theorem lw_p32 : lw_okq (⟨"HalfDrop$Judge", "firstBest", "(III)I"⟩, 9) := ⟨⟨by decide +kernel, by decide +kernel⟩, List.mem_of_getElem? (i := 228) (by decide +kernel), List.mem_of_getElem? (i := 996) (by decide +kernel), List.mem_of_getElem? (i := 997) (by decide +kernel)⟩
theorem lw_p33 : lw_okq (⟨"HalfDrop$Walls", "runsOffAt", "(I)I"⟩, 8) := ⟨⟨by decide +kernel, by decide +kernel⟩, List.mem_of_getElem? (i := 347) (by decide +kernel), List.mem_of_getElem? (i := 1014) (by decide +kernel), List.mem_of_getElem? (i := 1015) (by decide +kernel)⟩
theorem lw_p34 : lw_okq (⟨"HalfDrop", "shareRoom", "(I)Z"⟩, 15) := ⟨⟨by decide +kernel, by decide +kernel⟩, List.mem_of_getElem? (i := 21) (by decide +kernel), List.mem_of_getElem? (i := 1056) (by decide +kernel), List.mem_of_getElem? (i := 1057) (by decide +kernel)⟩
theorem lw_p35 : lw_okq (⟨"HalfDrop", "rollsOfWall", "(I)I"⟩, 15) := ⟨⟨by decide +kernel, by decide +kernel⟩, List.mem_of_getElem? (i := 21) (by decide +kernel), List.mem_of_getElem? (i := 1074) (by decide +kernel), List.mem_of_getElem? (i := 1075) (by decide +kernel)⟩
theorem lw_p36 : lw_okq (⟨"HalfDrop$Sharing", "choose", "(II)V"⟩, 12) := ⟨⟨by decide +kernel, by decide +kernel⟩, List.mem_of_getElem? (i := 265) (by decide +kernel), List.mem_of_getElem? (i := 1082) (by decide +kernel), List.mem_of_getElem? (i := 1083) (by decide +kernel)⟩
theorem lw_p37 : lw_okq (⟨"HalfDrop$Sharing", "pick", "(I)V"⟩, 12) := ⟨⟨by decide +kernel, by decide +kernel⟩, List.mem_of_getElem? (i := 265) (by decide +kernel), List.mem_of_getElem? (i := 1086) (by decide +kernel), List.mem_of_getElem? (i := 1087) (by decide +kernel)⟩
theorem lw_p38 : lw_okq (⟨"HalfDrop$Sharing", "seenBetween", "(II)I"⟩, 12) := ⟨⟨by decide +kernel, by decide +kernel⟩, List.mem_of_getElem? (i := 265) (by decide +kernel), List.mem_of_getElem? (i := 1090) (by decide +kernel), List.mem_of_getElem? (i := 1091) (by decide +kernel)⟩
theorem lw_p39 : lw_okq (⟨"HalfDrop$State", "endsFor", "(LHalfDrop$Layout;II)I"⟩, 8) := ⟨⟨by decide +kernel, by decide +kernel⟩, List.mem_of_getElem? (i := 81) (by decide +kernel), List.mem_of_getElem? (i := 1119) (by decide +kernel), List.mem_of_getElem? (i := 1120) (by decide +kernel)⟩
theorem lw_p40 : lw_okq (⟨"HalfDrop$State", "leastOne", "(I)I"⟩, 8) := ⟨⟨by decide +kernel, by decide +kernel⟩, List.mem_of_getElem? (i := 81) (by decide +kernel), List.mem_of_getElem? (i := 1129) (by decide +kernel), List.mem_of_getElem? (i := 1130) (by decide +kernel)⟩
theorem lw_p41 : lw_okq (⟨"HalfDrop$State", "leastPair", "(II)I"⟩, 8) := ⟨⟨by decide +kernel, by decide +kernel⟩, List.mem_of_getElem? (i := 81) (by decide +kernel), List.mem_of_getElem? (i := 1133) (by decide +kernel), List.mem_of_getElem? (i := 1134) (by decide +kernel)⟩
theorem lw_p42 : lw_okq (⟨"HalfDrop$Day", "freeFirst", "()I"⟩, 7) := ⟨⟨by decide +kernel, by decide +kernel⟩, List.mem_of_getElem? (i := 313) (by decide +kernel), List.mem_of_getElem? (i := 1159) (by decide +kernel), List.mem_of_getElem? (i := 1160) (by decide +kernel)⟩
theorem lw_p43 : lw_okq (⟨"HalfDropModel", "feeds", "(I)V"⟩, 75) := ⟨⟨by decide +kernel, by decide +kernel⟩, List.mem_of_getElem? (i := 1188) (by decide +kernel), List.mem_of_getElem? (i := 1433) (by decide +kernel), List.mem_of_getElem? (i := 1434) (by decide +kernel)⟩
theorem lw_p44 : lw_okq (⟨"HalfDropModel", "reads", "()V"⟩, 75) := ⟨⟨by decide +kernel, by decide +kernel⟩, List.mem_of_getElem? (i := 1188) (by decide +kernel), List.mem_of_getElem? (i := 1448) (by decide +kernel), List.mem_of_getElem? (i := 1449) (by decide +kernel)⟩
theorem lw_p45 : lw_okq (⟨"HalfDropModel", "next", "()V"⟩, 75) := ⟨⟨by decide +kernel, by decide +kernel⟩, List.mem_of_getElem? (i := 1188) (by decide +kernel), List.mem_of_getElem? (i := 1452) (by decide +kernel), List.mem_of_getElem? (i := 1453) (by decide +kernel)⟩
theorem lw_p46 : lw_okq (⟨"HalfDropModel", "between", "(III)Z"⟩, 75) := ⟨⟨by decide +kernel, by decide +kernel⟩, List.mem_of_getElem? (i := 1188) (by decide +kernel), List.mem_of_getElem? (i := 1456) (by decide +kernel), List.mem_of_getElem? (i := 1457) (by decide +kernel)⟩
theorem lw_p47 : lw_okq (⟨"HalfDropModel", "line", "()Z"⟩, 75) := ⟨⟨by decide +kernel, by decide +kernel⟩, List.mem_of_getElem? (i := 1188) (by decide +kernel), List.mem_of_getElem? (i := 1460) (by decide +kernel), List.mem_of_getElem? (i := 1461) (by decide +kernel)⟩
def lw_privs_3 : List (MethodName × Nat) := [(⟨"HalfDrop$Judge", "firstBest", "(III)I"⟩, 9), (⟨"HalfDrop$Walls", "runsOffAt", "(I)I"⟩, 8), (⟨"HalfDrop", "shareRoom", "(I)Z"⟩, 15), (⟨"HalfDrop", "rollsOfWall", "(I)I"⟩, 15), (⟨"HalfDrop$Sharing", "choose", "(II)V"⟩, 12), (⟨"HalfDrop$Sharing", "pick", "(I)V"⟩, 12), (⟨"HalfDrop$Sharing", "seenBetween", "(II)I"⟩, 12), (⟨"HalfDrop$State", "endsFor", "(LHalfDrop$Layout;II)I"⟩, 8), (⟨"HalfDrop$State", "leastOne", "(I)I"⟩, 8), (⟨"HalfDrop$State", "leastPair", "(II)I"⟩, 8), (⟨"HalfDrop$Day", "freeFirst", "()I"⟩, 7), (⟨"HalfDropModel", "feeds", "(I)V"⟩, 75), (⟨"HalfDropModel", "reads", "()V"⟩, 75), (⟨"HalfDropModel", "next", "()V"⟩, 75), (⟨"HalfDropModel", "between", "(III)Z"⟩, 75), (⟨"HalfDropModel", "line", "()Z"⟩, 75)]
theorem lw_r3 : ∀ q ∈ lw_privs_3, lw_okq q := List.forall_mem_cons.mpr ⟨lw_p32, List.forall_mem_cons.mpr ⟨lw_p33, List.forall_mem_cons.mpr ⟨lw_p34, List.forall_mem_cons.mpr ⟨lw_p35, List.forall_mem_cons.mpr ⟨lw_p36, List.forall_mem_cons.mpr ⟨lw_p37, List.forall_mem_cons.mpr ⟨lw_p38, List.forall_mem_cons.mpr ⟨lw_p39, List.forall_mem_cons.mpr ⟨lw_p40, List.forall_mem_cons.mpr ⟨lw_p41, List.forall_mem_cons.mpr ⟨lw_p42, List.forall_mem_cons.mpr ⟨lw_p43, List.forall_mem_cons.mpr ⟨lw_p44, List.forall_mem_cons.mpr ⟨lw_p45, List.forall_mem_cons.mpr ⟨lw_p46, List.forall_mem_cons.mpr ⟨lw_p47, fun _ h => absurd h List.not_mem_nil⟩⟩⟩⟩⟩⟩⟩⟩⟩⟩⟩⟩⟩⟩⟩⟩
theorem lw_p48 : lw_okq (⟨"HalfDropModel", "isWord", "(I)Z"⟩, 75) := ⟨⟨by decide +kernel, by decide +kernel⟩, List.mem_of_getElem? (i := 1188) (by decide +kernel), List.mem_of_getElem? (i := 1464) (by decide +kernel), List.mem_of_getElem? (i := 1465) (by decide +kernel)⟩
theorem lw_p49 : lw_okq (⟨"HalfDropModel", "wallRead", "()Z"⟩, 75) := ⟨⟨by decide +kernel, by decide +kernel⟩, List.mem_of_getElem? (i := 1188) (by decide +kernel), List.mem_of_getElem? (i := 1470) (by decide +kernel), List.mem_of_getElem? (i := 1471) (by decide +kernel)⟩
theorem lw_p50 : lw_okq (⟨"HalfDropModel", "passes", "(Z)Z"⟩, 75) := ⟨⟨by decide +kernel, by decide +kernel⟩, List.mem_of_getElem? (i := 1188) (by decide +kernel), List.mem_of_getElem? (i := 1474) (by decide +kernel), List.mem_of_getElem? (i := 1475) (by decide +kernel)⟩
theorem lw_p51 : lw_okq (⟨"HalfDropModel", "number", "(II)Z"⟩, 75) := ⟨⟨by decide +kernel, by decide +kernel⟩, List.mem_of_getElem? (i := 1188) (by decide +kernel), List.mem_of_getElem? (i := 1478) (by decide +kernel), List.mem_of_getElem? (i := 1479) (by decide +kernel)⟩
theorem lw_p52 : lw_okq (⟨"HalfDropModel", "isSign", "(I)Z"⟩, 75) := ⟨⟨by decide +kernel, by decide +kernel⟩, List.mem_of_getElem? (i := 1188) (by decide +kernel), List.mem_of_getElem? (i := 1482) (by decide +kernel), List.mem_of_getElem? (i := 1483) (by decide +kernel)⟩
theorem lw_p53 : lw_okq (⟨"HalfDropModel", "openingRead", "(Z)Z"⟩, 75) := ⟨⟨by decide +kernel, by decide +kernel⟩, List.mem_of_getElem? (i := 1188) (by decide +kernel), List.mem_of_getElem? (i := 1486) (by decide +kernel), List.mem_of_getElem? (i := 1487) (by decide +kernel)⟩
theorem lw_p54 : lw_okq (⟨"HalfDropModel", "lesser", "(II)I"⟩, 75) := ⟨⟨by decide +kernel, by decide +kernel⟩, List.mem_of_getElem? (i := 1188) (by decide +kernel), List.mem_of_getElem? (i := 1490) (by decide +kernel), List.mem_of_getElem? (i := 1491) (by decide +kernel)⟩
theorem lw_p55 : lw_okq (⟨"HalfDropModel", "leanRead", "()Z"⟩, 75) := ⟨⟨by decide +kernel, by decide +kernel⟩, List.mem_of_getElem? (i := 1188) (by decide +kernel), List.mem_of_getElem? (i := 1495) (by decide +kernel), List.mem_of_getElem? (i := 1496) (by decide +kernel)⟩
theorem lw_p56 : lw_okq (⟨"HalfDropModel", "standRead", "()Z"⟩, 75) := ⟨⟨by decide +kernel, by decide +kernel⟩, List.mem_of_getElem? (i := 1188) (by decide +kernel), List.mem_of_getElem? (i := 1499) (by decide +kernel), List.mem_of_getElem? (i := 1500) (by decide +kernel)⟩
theorem lw_p57 : lw_okq (⟨"HalfDropModel", "isRoom", "(I)Z"⟩, 75) := ⟨⟨by decide +kernel, by decide +kernel⟩, List.mem_of_getElem? (i := 1188) (by decide +kernel), List.mem_of_getElem? (i := 1511) (by decide +kernel), List.mem_of_getElem? (i := 1512) (by decide +kernel)⟩
theorem lw_p58 : lw_okq (⟨"HalfDropModel", "wallAt", "(II)I"⟩, 75) := ⟨⟨by decide +kernel, by decide +kernel⟩, List.mem_of_getElem? (i := 1188) (by decide +kernel), List.mem_of_getElem? (i := 1515) (by decide +kernel), List.mem_of_getElem? (i := 1516) (by decide +kernel)⟩
theorem lw_p59 : lw_okq (⟨"HalfDropModel", "beginOf", "(II)I"⟩, 75) := ⟨⟨by decide +kernel, by decide +kernel⟩, List.mem_of_getElem? (i := 1188) (by decide +kernel), List.mem_of_getElem? (i := 1519) (by decide +kernel), List.mem_of_getElem? (i := 1520) (by decide +kernel)⟩
theorem lw_p60 : lw_okq (⟨"HalfDropModel", "highAt", "(III)I"⟩, 75) := ⟨⟨by decide +kernel, by decide +kernel⟩, List.mem_of_getElem? (i := 1188) (by decide +kernel), List.mem_of_getElem? (i := 1523) (by decide +kernel), List.mem_of_getElem? (i := 1524) (by decide +kernel)⟩
theorem lw_p61 : lw_okq (⟨"HalfDropModel", "isPaper", "(I)Z"⟩, 75) := ⟨⟨by decide +kernel, by decide +kernel⟩, List.mem_of_getElem? (i := 1188) (by decide +kernel), List.mem_of_getElem? (i := 1546) (by decide +kernel), List.mem_of_getElem? (i := 1547) (by decide +kernel)⟩
theorem lw_p62 : lw_okq (⟨"HalfDropModel", "stripsOf", "(II)I"⟩, 75) := ⟨⟨by decide +kernel, by decide +kernel⟩, List.mem_of_getElem? (i := 1188) (by decide +kernel), List.mem_of_getElem? (i := 1550) (by decide +kernel), List.mem_of_getElem? (i := 1551) (by decide +kernel)⟩
theorem lw_p63 : lw_okq (⟨"HalfDropModel", "isDone", "(I)Z"⟩, 75) := ⟨⟨by decide +kernel, by decide +kernel⟩, List.mem_of_getElem? (i := 1188) (by decide +kernel), List.mem_of_getElem? (i := 1558) (by decide +kernel), List.mem_of_getElem? (i := 1559) (by decide +kernel)⟩
def lw_privs_4 : List (MethodName × Nat) := [(⟨"HalfDropModel", "isWord", "(I)Z"⟩, 75), (⟨"HalfDropModel", "wallRead", "()Z"⟩, 75), (⟨"HalfDropModel", "passes", "(Z)Z"⟩, 75), (⟨"HalfDropModel", "number", "(II)Z"⟩, 75), (⟨"HalfDropModel", "isSign", "(I)Z"⟩, 75), (⟨"HalfDropModel", "openingRead", "(Z)Z"⟩, 75), (⟨"HalfDropModel", "lesser", "(II)I"⟩, 75), (⟨"HalfDropModel", "leanRead", "()Z"⟩, 75), (⟨"HalfDropModel", "standRead", "()Z"⟩, 75), (⟨"HalfDropModel", "isRoom", "(I)Z"⟩, 75), (⟨"HalfDropModel", "wallAt", "(II)I"⟩, 75), (⟨"HalfDropModel", "beginOf", "(II)I"⟩, 75), (⟨"HalfDropModel", "highAt", "(III)I"⟩, 75), (⟨"HalfDropModel", "isPaper", "(I)Z"⟩, 75), (⟨"HalfDropModel", "stripsOf", "(II)I"⟩, 75), (⟨"HalfDropModel", "isDone", "(I)Z"⟩, 75)]
theorem lw_r4 : ∀ q ∈ lw_privs_4, lw_okq q := List.forall_mem_cons.mpr ⟨lw_p48, List.forall_mem_cons.mpr ⟨lw_p49, List.forall_mem_cons.mpr ⟨lw_p50, List.forall_mem_cons.mpr ⟨lw_p51, List.forall_mem_cons.mpr ⟨lw_p52, List.forall_mem_cons.mpr ⟨lw_p53, List.forall_mem_cons.mpr ⟨lw_p54, List.forall_mem_cons.mpr ⟨lw_p55, List.forall_mem_cons.mpr ⟨lw_p56, List.forall_mem_cons.mpr ⟨lw_p57, List.forall_mem_cons.mpr ⟨lw_p58, List.forall_mem_cons.mpr ⟨lw_p59, List.forall_mem_cons.mpr ⟨lw_p60, List.forall_mem_cons.mpr ⟨lw_p61, List.forall_mem_cons.mpr ⟨lw_p62, List.forall_mem_cons.mpr ⟨lw_p63, fun _ h => absurd h List.not_mem_nil⟩⟩⟩⟩⟩⟩⟩⟩⟩⟩⟩⟩⟩⟩⟩⟩
theorem lw_p64 : lw_okq (⟨"HalfDropModel", "lays", "(I)V"⟩, 75) := ⟨⟨by decide +kernel, by decide +kernel⟩, List.mem_of_getElem? (i := 1188) (by decide +kernel), List.mem_of_getElem? (i := 1564) (by decide +kernel), List.mem_of_getElem? (i := 1565) (by decide +kernel)⟩
theorem lw_p65 : lw_okq (⟨"HalfDropModel", "wideOf", "(III)I"⟩, 75) := ⟨⟨by decide +kernel, by decide +kernel⟩, List.mem_of_getElem? (i := 1188) (by decide +kernel), List.mem_of_getElem? (i := 1568) (by decide +kernel), List.mem_of_getElem? (i := 1569) (by decide +kernel)⟩
theorem lw_p66 : lw_okq (⟨"HalfDropModel", "measures", "(III)V"⟩, 75) := ⟨⟨by decide +kernel, by decide +kernel⟩, List.mem_of_getElem? (i := 1188) (by decide +kernel), List.mem_of_getElem? (i := 1572) (by decide +kernel), List.mem_of_getElem? (i := 1573) (by decide +kernel)⟩
theorem lw_p67 : lw_okq (⟨"HalfDropModel", "cuts", "(II)V"⟩, 75) := ⟨⟨by decide +kernel, by decide +kernel⟩, List.mem_of_getElem? (i := 1188) (by decide +kernel), List.mem_of_getElem? (i := 1577) (by decide +kernel), List.mem_of_getElem? (i := 1578) (by decide +kernel)⟩
theorem lw_p68 : lw_okq (⟨"HalfDropModel", "adds", "(III)V"⟩, 75) := ⟨⟨by decide +kernel, by decide +kernel⟩, List.mem_of_getElem? (i := 1188) (by decide +kernel), List.mem_of_getElem? (i := 1581) (by decide +kernel), List.mem_of_getElem? (i := 1582) (by decide +kernel)⟩
theorem lw_p69 : lw_okq (⟨"HalfDropModel", "offsetOf", "(III)I"⟩, 75) := ⟨⟨by decide +kernel, by decide +kernel⟩, List.mem_of_getElem? (i := 1188) (by decide +kernel), List.mem_of_getElem? (i := 1589) (by decide +kernel), List.mem_of_getElem? (i := 1590) (by decide +kernel)⟩
theorem lw_p70 : lw_okq (⟨"HalfDropModel", "fitsAll", "(I)Z"⟩, 75) := ⟨⟨by decide +kernel, by decide +kernel⟩, List.mem_of_getElem? (i := 1188) (by decide +kernel), List.mem_of_getElem? (i := 1598) (by decide +kernel), List.mem_of_getElem? (i := 1599) (by decide +kernel)⟩
theorem lw_p71 : lw_okq (⟨"HalfDropModel", "cutsFrom", "(II)Z"⟩, 75) := ⟨⟨by decide +kernel, by decide +kernel⟩, List.mem_of_getElem? (i := 1188) (by decide +kernel), List.mem_of_getElem? (i := 1602) (by decide +kernel), List.mem_of_getElem? (i := 1603) (by decide +kernel)⟩
theorem lw_p72 : lw_okq (⟨"HalfDropModel", "phaseOf", "(II)I"⟩, 75) := ⟨⟨by decide +kernel, by decide +kernel⟩, List.mem_of_getElem? (i := 1188) (by decide +kernel), List.mem_of_getElem? (i := 1606) (by decide +kernel), List.mem_of_getElem? (i := 1607) (by decide +kernel)⟩
theorem lw_p73 : lw_okq (⟨"HalfDropModel", "placeIn", "(II)I"⟩, 75) := ⟨⟨by decide +kernel, by decide +kernel⟩, List.mem_of_getElem? (i := 1188) (by decide +kernel), List.mem_of_getElem? (i := 1613) (by decide +kernel), List.mem_of_getElem? (i := 1614) (by decide +kernel)⟩
theorem lw_p74 : lw_okq (⟨"HalfDropModel", "longOf", "(I)I"⟩, 75) := ⟨⟨by decide +kernel, by decide +kernel⟩, List.mem_of_getElem? (i := 1188) (by decide +kernel), List.mem_of_getElem? (i := 1617) (by decide +kernel), List.mem_of_getElem? (i := 1618) (by decide +kernel)⟩
theorem lw_p75 : lw_okq (⟨"HalfDropModel", "fewest", "(I)I"⟩, 75) := ⟨⟨by decide +kernel, by decide +kernel⟩, List.mem_of_getElem? (i := 1188) (by decide +kernel), List.mem_of_getElem? (i := 1625) (by decide +kernel), List.mem_of_getElem? (i := 1626) (by decide +kernel)⟩
theorem lw_p76 : lw_okq (⟨"HalfDropModel", "faultsOf", "(IIII)I"⟩, 75) := ⟨⟨by decide +kernel, by decide +kernel⟩, List.mem_of_getElem? (i := 1188) (by decide +kernel), List.mem_of_getElem? (i := 1638) (by decide +kernel), List.mem_of_getElem? (i := 1639) (by decide +kernel)⟩
theorem lw_p77 : lw_okq (⟨"HalfDropModel", "seamOf", "(III)I"⟩, 75) := ⟨⟨by decide +kernel, by decide +kernel⟩, List.mem_of_getElem? (i := 1188) (by decide +kernel), List.mem_of_getElem? (i := 1642) (by decide +kernel), List.mem_of_getElem? (i := 1643) (by decide +kernel)⟩
theorem lw_p78 : lw_okq (⟨"HalfDropModel", "narrowOf", "(II)I"⟩, 75) := ⟨⟨by decide +kernel, by decide +kernel⟩, List.mem_of_getElem? (i := 1188) (by decide +kernel), List.mem_of_getElem? (i := 1646) (by decide +kernel), List.mem_of_getElem? (i := 1647) (by decide +kernel)⟩
theorem lw_p79 : lw_okq (⟨"HalfDropModel", "notWhole", "(IIII)I"⟩, 75) := ⟨⟨by decide +kernel, by decide +kernel⟩, List.mem_of_getElem? (i := 1188) (by decide +kernel), List.mem_of_getElem? (i := 1650) (by decide +kernel), List.mem_of_getElem? (i := 1651) (by decide +kernel)⟩
def lw_privs_5 : List (MethodName × Nat) := [(⟨"HalfDropModel", "lays", "(I)V"⟩, 75), (⟨"HalfDropModel", "wideOf", "(III)I"⟩, 75), (⟨"HalfDropModel", "measures", "(III)V"⟩, 75), (⟨"HalfDropModel", "cuts", "(II)V"⟩, 75), (⟨"HalfDropModel", "adds", "(III)V"⟩, 75), (⟨"HalfDropModel", "offsetOf", "(III)I"⟩, 75), (⟨"HalfDropModel", "fitsAll", "(I)Z"⟩, 75), (⟨"HalfDropModel", "cutsFrom", "(II)Z"⟩, 75), (⟨"HalfDropModel", "phaseOf", "(II)I"⟩, 75), (⟨"HalfDropModel", "placeIn", "(II)I"⟩, 75), (⟨"HalfDropModel", "longOf", "(I)I"⟩, 75), (⟨"HalfDropModel", "fewest", "(I)I"⟩, 75), (⟨"HalfDropModel", "faultsOf", "(IIII)I"⟩, 75), (⟨"HalfDropModel", "seamOf", "(III)I"⟩, 75), (⟨"HalfDropModel", "narrowOf", "(II)I"⟩, 75), (⟨"HalfDropModel", "notWhole", "(IIII)I"⟩, 75)]
theorem lw_r5 : ∀ q ∈ lw_privs_5, lw_okq q := List.forall_mem_cons.mpr ⟨lw_p64, List.forall_mem_cons.mpr ⟨lw_p65, List.forall_mem_cons.mpr ⟨lw_p66, List.forall_mem_cons.mpr ⟨lw_p67, List.forall_mem_cons.mpr ⟨lw_p68, List.forall_mem_cons.mpr ⟨lw_p69, List.forall_mem_cons.mpr ⟨lw_p70, List.forall_mem_cons.mpr ⟨lw_p71, List.forall_mem_cons.mpr ⟨lw_p72, List.forall_mem_cons.mpr ⟨lw_p73, List.forall_mem_cons.mpr ⟨lw_p74, List.forall_mem_cons.mpr ⟨lw_p75, List.forall_mem_cons.mpr ⟨lw_p76, List.forall_mem_cons.mpr ⟨lw_p77, List.forall_mem_cons.mpr ⟨lw_p78, List.forall_mem_cons.mpr ⟨lw_p79, fun _ h => absurd h List.not_mem_nil⟩⟩⟩⟩⟩⟩⟩⟩⟩⟩⟩⟩⟩⟩⟩⟩
theorem lw_p80 : lw_okq (⟨"HalfDropModel", "isWhole", "(IIIII)Z"⟩, 75) := ⟨⟨by decide +kernel, by decide +kernel⟩, List.mem_of_getElem? (i := 1188) (by decide +kernel), List.mem_of_getElem? (i := 1654) (by decide +kernel), List.mem_of_getElem? (i := 1655) (by decide +kernel)⟩
theorem lw_p81 : lw_okq (⟨"HalfDropModel", "areCuts", "(II)Z"⟩, 75) := ⟨⟨by decide +kernel, by decide +kernel⟩, List.mem_of_getElem? (i := 1188) (by decide +kernel), List.mem_of_getElem? (i := 1668) (by decide +kernel), List.mem_of_getElem? (i := 1669) (by decide +kernel)⟩
theorem lw_p82 : lw_okq (⟨"HalfDropModel", "runsOf", "(II)I"⟩, 75) := ⟨⟨by decide +kernel, by decide +kernel⟩, List.mem_of_getElem? (i := 1188) (by decide +kernel), List.mem_of_getElem? (i := 1672) (by decide +kernel), List.mem_of_getElem? (i := 1673) (by decide +kernel)⟩
theorem lw_p83 : lw_okq (⟨"HalfDropModel", "ownOf", "(II)I"⟩, 75) := ⟨⟨by decide +kernel, by decide +kernel⟩, List.mem_of_getElem? (i := 1188) (by decide +kernel), List.mem_of_getElem? (i := 1695) (by decide +kernel), List.mem_of_getElem? (i := 1696) (by decide +kernel)⟩
theorem lw_p84 : lw_okq (⟨"HalfDropModel", "shares", "(II)V"⟩, 75) := ⟨⟨by decide +kernel, by decide +kernel⟩, List.mem_of_getElem? (i := 1188) (by decide +kernel), List.mem_of_getElem? (i := 1703) (by decide +kernel), List.mem_of_getElem? (i := 1704) (by decide +kernel)⟩
theorem lw_p85 : lw_okq (⟨"HalfDropModel", "hasDoor", "(II)Z"⟩, 75) := ⟨⟨by decide +kernel, by decide +kernel⟩, List.mem_of_getElem? (i := 1188) (by decide +kernel), List.mem_of_getElem? (i := 1707) (by decide +kernel), List.mem_of_getElem? (i := 1708) (by decide +kernel)⟩
theorem lw_p86 : lw_okq (⟨"HalfDropModel", "canCut", "(III)Z"⟩, 75) := ⟨⟨by decide +kernel, by decide +kernel⟩, List.mem_of_getElem? (i := 1188) (by decide +kernel), List.mem_of_getElem? (i := 1723) (by decide +kernel), List.mem_of_getElem? (i := 1724) (by decide +kernel)⟩
theorem lw_p87 : lw_okq (⟨"HalfDropModel", "longAll", "(I)I"⟩, 75) := ⟨⟨by decide +kernel, by decide +kernel⟩, List.mem_of_getElem? (i := 1188) (by decide +kernel), List.mem_of_getElem? (i := 1737) (by decide +kernel), List.mem_of_getElem? (i := 1738) (by decide +kernel)⟩
def lw_privs_6 : List (MethodName × Nat) := [(⟨"HalfDropModel", "isWhole", "(IIIII)Z"⟩, 75), (⟨"HalfDropModel", "areCuts", "(II)Z"⟩, 75), (⟨"HalfDropModel", "runsOf", "(II)I"⟩, 75), (⟨"HalfDropModel", "ownOf", "(II)I"⟩, 75), (⟨"HalfDropModel", "shares", "(II)V"⟩, 75), (⟨"HalfDropModel", "hasDoor", "(II)Z"⟩, 75), (⟨"HalfDropModel", "canCut", "(III)Z"⟩, 75), (⟨"HalfDropModel", "longAll", "(I)I"⟩, 75)]
theorem lw_r6 : ∀ q ∈ lw_privs_6, lw_okq q := List.forall_mem_cons.mpr ⟨lw_p80, List.forall_mem_cons.mpr ⟨lw_p81, List.forall_mem_cons.mpr ⟨lw_p82, List.forall_mem_cons.mpr ⟨lw_p83, List.forall_mem_cons.mpr ⟨lw_p84, List.forall_mem_cons.mpr ⟨lw_p85, List.forall_mem_cons.mpr ⟨lw_p86, List.forall_mem_cons.mpr ⟨lw_p87, fun _ h => absurd h List.not_mem_nil⟩⟩⟩⟩⟩⟩⟩⟩
def lw_privs : List (MethodName × Nat) := lw_privs_1 ++ (lw_privs_2 ++ (lw_privs_3 ++ (lw_privs_4 ++ (lw_privs_5 ++ (lw_privs_6)))))
def lw_tbl : List Cond := k2_sels lw_privs ++ tables_1
theorem lw_privs_ok : ∀ q ∈ lw_privs, lw_okq q := by
  show ∀ q ∈ lw_privs_1 ++ (lw_privs_2 ++ (lw_privs_3 ++ (lw_privs_4 ++ (lw_privs_5 ++ (lw_privs_6))))), lw_okq q
  exact List.forall_mem_append.mpr ⟨lw_r1, List.forall_mem_append.mpr ⟨lw_r2, List.forall_mem_append.mpr ⟨lw_r3, List.forall_mem_append.mpr ⟨lw_r4, List.forall_mem_append.mpr ⟨lw_r5, lw_r6⟩⟩⟩⟩⟩
-- ===== end of PART A; then your names; then what follows =====
end
section
theorem goodIn_r {big : List Cond} (ws : List Cond) (ps : List Nat) (hp : ws = ps.filterMap (fun i => big[i]?)) (h : ws.all goodWord = true) : GoodIn big ws := by
  intro w hw
  have h1 := List.all_eq_true.mp h w hw
  rw [hp] at hw
  obtain ⟨i, -, hi⟩ := List.mem_filterMap.mp hw
  have hm : w ∈ big := by first | exact List.mem_of_getElem? hi | exact List.getElem?_mem hi
  exact ⟨hm, good_of_word h1⟩
theorem goodIn_app {big a b : List Cond} (ha : GoodIn big a) (hb : GoodIn big b) : GoodIn big (a ++ b) := fun w h => (List.mem_append.mp h).elim (ha w) (hb w)
theorem goodIn_ca {big a b : List Cond} {c : Cond} (ha : GoodIn big (c :: a)) (hb : GoodIn big b) : GoodIn big (c :: (a ++ b)) := fun w h => (List.mem_cons.mp h).elim (fun e => ha w (List.mem_cons.mpr (Or.inl e))) (fun h => (List.mem_append.mp h).elim (fun h => ha w (List.mem_cons.mpr (Or.inr h))) (hb w))
theorem goodIn_sub {big ws : List Cond} (hm : ∀ w ∈ ws, w ∈ big) (h : ws.all goodWord = true) : GoodIn big ws := fun w hw => ⟨hm w hw, good_of_word (List.all_eq_true.mp h w hw)⟩
def RX0 : String := "HalfDrop$Day"
def TX0 : u_T := fun k => match k with
  | 0 => ("HalfDrop$Day", "hangers", "I", false)
  | 1 => ("HalfDrop$Day", "soaking", "I", false)
  | 2 => ("HalfDrop$Day", "bound", "I", false)
  | 3 => ("HalfDrop$Day", "lazy", "Z", false)
  | 4 => ("HalfDrop$Day", "pasterFree", "I", false)
  | 5 => ("HalfDrop$Day", "hangerFree", "[I", true)
  | _ => ("HalfDrop$Day", "spoilt", "I", false)
def tyX0 : Nat → FieldType := fun k => match k with
  | 0 => .int
  | 1 => .int
  | 2 => .int
  | 3 => .boolean
  | 4 => .int
  | 5 => .array .int
  | _ => .int
abbrev wsX00 : List Cond := u_ws RX0 TX0 7
theorem nmX0 : ∀ a, a < 7 → ∀ b, b < 7 → a ≠ b → (TX0 a).2.1 ≠ (TX0 b).2.1 := by decide +kernel
theorem tyX0_ok : ∀ k, k < 7 → parseFieldDescriptor (TX0 k).2.2.1 = some (tyX0 k) := by decide +kernel
abbrev cX0_init : ByteArray := prog_2_method_1_code
def yX0_init : MethodName := ⟨RX0, "<init>", "()V"⟩
abbrev cX0_begin : ByteArray := prog_2_method_2_code
def yX0_begin : MethodName := ⟨RX0, "begin", "(III)Z"⟩
abbrev cX0_take : ByteArray := prog_2_method_3_code
def yX0_take : MethodName := ⟨RX0, "take", "(I)V"⟩
abbrev cX0_lastMinute : ByteArray := prog_2_method_4_code
def yX0_lastMinute : MethodName := ⟨RX0, "lastMinute", "()I"⟩
abbrev cX0_freeFirst : ByteArray := prog_2_method_5_code
def yX0_freeFirst : MethodName := ⟨RX0, "freeFirst", "()I"⟩
def RX1 : String := "HalfDrop$Judge"
def TX1 : u_T := fun k => match k with
  | 0 => ("HalfDrop$Judge", "room", "LHalfDrop$Room;", false)
  | 1 => ("HalfDrop$Judge", "paper", "LHalfDrop$Paper;", false)
  | 2 => ("HalfDrop$Judge", "round", "I", false)
  | 3 => ("HalfDrop$Judge", "seamIsBad", "Z", false)
  | 4 => ("HalfDrop$Judge", "wholeWith", "[I", true)
  | 5 => ("HalfDrop$Judge", "baseFor", "[I", true)
  | 6 => ("HalfDrop$Judge", "bestStart", "I", false)
  | 7 => ("HalfDrop$Judge", "bestBase", "I", false)
  | _ => ("HalfDrop$Judge", "bestFaults", "I", false)
def tyX1 : Nat → FieldType := fun k => match k with
  | 0 => .object "HalfDrop$Room"
  | 1 => .object "HalfDrop$Paper"
  | 2 => .int
  | 3 => .boolean
  | 4 => .array .int
  | 5 => .array .int
  | 6 => .int
  | 7 => .int
  | _ => .int
abbrev wsX10 : List Cond := u_ws RX1 TX1 9
theorem nmX1 : ∀ a, a < 9 → ∀ b, b < 9 → a ≠ b → (TX1 a).2.1 ≠ (TX1 b).2.1 := by decide +kernel
theorem tyX1_ok : ∀ k, k < 9 → parseFieldDescriptor (TX1 k).2.2.1 = some (tyX1 k) := by decide +kernel
abbrev cX1_init : ByteArray := prog_3_method_1_code
def yX1_init : MethodName := ⟨RX1, "<init>", "()V"⟩
abbrev cX1_look : ByteArray := prog_3_method_2_code
def yX1_look : MethodName := ⟨RX1, "look", "(LHalfDrop$Room;LHalfDrop$Paper;)V"⟩
abbrev cX1_seamAt : ByteArray := prog_3_method_3_code
def yX1_seamAt : MethodName := ⟨RX1, "seamAt", "(I)I"⟩
abbrev cX1_narrowness : ByteArray := prog_3_method_4_code
def yX1_narrowness : MethodName := ⟨RX1, "narrowness", "()I"⟩
abbrev cX1_brokenStands : ByteArray := prog_3_method_5_code
def yX1_brokenStands : MethodName := ⟨RX1, "brokenStands", "(II)I"⟩
abbrev cX1_wholeStands : ByteArray := prog_3_method_6_code
def yX1_wholeStands : MethodName := ⟨RX1, "wholeStands", "(III)I"⟩
abbrev cX1_search : ByteArray := prog_3_method_7_code
def yX1_search : MethodName := ⟨RX1, "search", "(I)V"⟩
abbrev cX1_judgeStart : ByteArray := prog_3_method_8_code
def yX1_judgeStart : MethodName := ⟨RX1, "judgeStart", "(II)V"⟩
abbrev cX1_firstBest : ByteArray := prog_3_method_9_code
def yX1_firstBest : MethodName := ⟨RX1, "firstBest", "(III)I"⟩
abbrev cX1_standsWithin : ByteArray := prog_3_method_10_code
def yX1_standsWithin : MethodName := ⟨RX1, "standsWithin", "(II)I"⟩
abbrev cX1_wholeFigures : ByteArray := prog_3_method_11_code
def yX1_wholeFigures : MethodName := ⟨RX1, "wholeFigures", "(I)I"⟩
abbrev cX1_standsClear : ByteArray := prog_3_method_12_code
def yX1_standsClear : MethodName := ⟨RX1, "standsClear", "(III)Z"⟩
abbrev cX1_figureIsWhole : ByteArray := prog_3_method_13_code
def yX1_figureIsWhole : MethodName := ⟨RX1, "figureIsWhole", "(IIII)Z"⟩
def RX2 : String := "HalfDrop$Layout"
def TX2 : u_T := fun k => match k with
  | 0 => ("HalfDrop$Layout", "room", "LHalfDrop$Room;", false)
  | 1 => ("HalfDrop$Layout", "paper", "LHalfDrop$Paper;", false)
  | 2 => ("HalfDrop$Layout", "start", "I", false)
  | 3 => ("HalfDrop$Layout", "base", "I", false)
  | 4 => ("HalfDrop$Layout", "trim", "I", false)
  | 5 => ("HalfDrop$Layout", "strips", "I", false)
  | 6 => ("HalfDrop$Layout", "talls", "[I", true)
  | 7 => ("HalfDrop$Layout", "firsts", "[I", true)
  | 8 => ("HalfDrop$Layout", "pieces", "I", false)
  | 9 => ("HalfDrop$Layout", "stripsOf", "[I", true)
  | 10 => ("HalfDrop$Layout", "froms", "[I", true)
  | 11 => ("HalfDrop$Layout", "tos", "[I", true)
  | 12 => ("HalfDrop$Layout", "longs", "[I", true)
  | 13 => ("HalfDrop$Layout", "phases", "[I", true)
  | 14 => ("HalfDrop$Layout", "rollsOf", "[I", true)
  | _ => ("HalfDrop$Layout", "placesOf", "[I", true)
def tyX2 : Nat → FieldType := fun k => match k with
  | 0 => .object "HalfDrop$Room"
  | 1 => .object "HalfDrop$Paper"
  | 2 => .int
  | 3 => .int
  | 4 => .int
  | 5 => .int
  | 6 => .array .int
  | 7 => .array .int
  | 8 => .int
  | 9 => .array .int
  | 10 => .array .int
  | 11 => .array .int
  | 12 => .array .int
  | 13 => .array .int
  | 14 => .array .int
  | _ => .array .int
abbrev wsX20 : List Cond := u_ws RX2 TX2 16
theorem nmX2 : ∀ a, a < 16 → ∀ b, b < 16 → a ≠ b → (TX2 a).2.1 ≠ (TX2 b).2.1 := by decide +kernel
theorem tyX2_ok : ∀ k, k < 16 → parseFieldDescriptor (TX2 k).2.2.1 = some (tyX2 k) := by decide +kernel
abbrev cX2_init : ByteArray := prog_4_method_1_code
def yX2_init : MethodName := ⟨RX2, "<init>", "()V"⟩
abbrev cX2_lay : ByteArray := prog_4_method_2_code
def yX2_lay : MethodName := ⟨RX2, "lay", "(LHalfDrop$Room;LHalfDrop$Paper;III)V"⟩
abbrev cX2_beginOf : ByteArray := prog_4_method_3_code
def yX2_beginOf : MethodName := ⟨RX2, "beginOf", "(I)I"⟩
abbrev cX2_widthOf : ByteArray := prog_4_method_4_code
def yX2_widthOf : MethodName := ⟨RX2, "widthOf", "(I)I"⟩
abbrev cX2_measure : ByteArray := prog_4_method_5_code
def yX2_measure : MethodName := ⟨RX2, "measure", "(I)I"⟩
abbrev cX2_addPieces : ByteArray := prog_4_method_6_code
def yX2_addPieces : MethodName := ⟨RX2, "addPieces", "(II)V"⟩
abbrev cX2_addPiece : ByteArray := prog_4_method_7_code
def yX2_addPiece : MethodName := ⟨RX2, "addPiece", "(IIII)V"⟩
abbrev cX2_longTogether : ByteArray := prog_4_method_8_code
def yX2_longTogether : MethodName := ⟨RX2, "longTogether", "(II)I"⟩
abbrev cX2_cutFrom : ByteArray := prog_4_method_9_code
def yX2_cutFrom : MethodName := ⟨RX2, "cutFrom", "(LHalfDrop$Rolls;I)Z"⟩
abbrev cX2_fitsEnd : ByteArray := prog_4_method_10_code
def yX2_fitsEnd : MethodName := ⟨RX2, "fitsEnd", "(III)Z"⟩
def RX3 : String := "HalfDrop$Paper"
def TX3 : u_T := fun k => match k with
  | 0 => ("HalfDrop$Paper", "width", "I", true)
  | 1 => ("HalfDrop$Paper", "repeat", "I", true)
  | 2 => ("HalfDrop$Paper", "drop", "I", true)
  | 3 => ("HalfDrop$Paper", "roll", "I", true)
  | 4 => ("HalfDrop$Paper", "figureFrom", "I", true)
  | _ => ("HalfDrop$Paper", "figureHigh", "I", true)
def tyX3 : Nat → FieldType := fun k => match k with
  | 0 => .int
  | 1 => .int
  | 2 => .int
  | 3 => .int
  | 4 => .int
  | _ => .int
abbrev wsX30 : List Cond := u_ws RX3 TX3 6
theorem nmX3 : ∀ a, a < 6 → ∀ b, b < 6 → a ≠ b → (TX3 a).2.1 ≠ (TX3 b).2.1 := by decide +kernel
theorem tyX3_ok : ∀ k, k < 6 → parseFieldDescriptor (TX3 k).2.2.1 = some (tyX3 k) := by decide +kernel
abbrev cX3_init : ByteArray := prog_5_method_1_code
def yX3_init : MethodName := ⟨RX3, "<init>", "(IIIII)V"⟩
abbrev cX3_canBe : ByteArray := prog_5_method_2_code
def yX3_canBe : MethodName := ⟨RX3, "canBe", "(IIIII)Z"⟩
abbrev cX3_stripsFor : ByteArray := prog_5_method_3_code
def yX3_stripsFor : MethodName := ⟨RX3, "stripsFor", "(I)I"⟩
abbrev cX3_offsetOf : ByteArray := prog_5_method_4_code
def yX3_offsetOf : MethodName := ⟨RX3, "offsetOf", "(II)I"⟩
abbrev cX3_phaseAt : ByteArray := prog_5_method_5_code
def yX3_phaseAt : MethodName := ⟨RX3, "phaseAt", "(I)I"⟩
abbrev cX3_placeBehind : ByteArray := prog_5_method_6_code
def yX3_placeBehind : MethodName := ⟨RX3, "placeBehind", "(II)I"⟩
def RX4 : String := "HalfDrop$Reader"
def TX4 : u_T := fun k => match k with
  | 0 => ("HalfDrop$Reader", "text", "LHalfDrop$Text;", true)
  | 1 => ("HalfDrop$Reader", "room", "LHalfDrop$Room;", false)
  | _ => ("HalfDrop$Reader", "token", "I", false)
def tyX4 : Nat → FieldType := fun k => match k with
  | 0 => .object "HalfDrop$Text"
  | 1 => .object "HalfDrop$Room"
  | _ => .int
abbrev wsX40 : List Cond := u_ws RX4 TX4 3
theorem nmX4 : ∀ a, a < 3 → ∀ b, b < 3 → a ≠ b → (TX4 a).2.1 ≠ (TX4 b).2.1 := by decide +kernel
theorem tyX4_ok : ∀ k, k < 3 → parseFieldDescriptor (TX4 k).2.2.1 = some (tyX4 k) := by decide +kernel
abbrev cX4_init : ByteArray := prog_6_method_1_code
def yX4_init : MethodName := ⟨RX4, "<init>", "(LHalfDrop$Text;)V"⟩
abbrev cX4_read : ByteArray := prog_6_method_2_code
def yX4_read : MethodName := ⟨RX4, "read", "(LHalfDrop$Room;)I"⟩
abbrev cX4_isNext : ByteArray := prog_6_method_3_code
def yX4_isNext : MethodName := ⟨RX4, "isNext", "(I)Z"⟩
abbrev cX4_placeOfNext : ByteArray := prog_6_method_4_code
def yX4_placeOfNext : MethodName := ⟨RX4, "placeOfNext", "()I"⟩
abbrev cX4_readLine : ByteArray := prog_6_method_5_code
def yX4_readLine : MethodName := ⟨RX4, "readLine", "()Z"⟩
abbrev cX4_readWall : ByteArray := prog_6_method_6_code
def yX4_readWall : MethodName := ⟨RX4, "readWall", "()Z"⟩
abbrev cX4_readDoor : ByteArray := prog_6_method_7_code
def yX4_readDoor : MethodName := ⟨RX4, "readDoor", "()Z"⟩
abbrev cX4_readWindow : ByteArray := prog_6_method_8_code
def yX4_readWindow : MethodName := ⟨RX4, "readWindow", "()Z"⟩
abbrev cX4_readLean : ByteArray := prog_6_method_9_code
def yX4_readLean : MethodName := ⟨RX4, "readLean", "()Z"⟩
abbrev cX4_readStand : ByteArray := prog_6_method_10_code
def yX4_readStand : MethodName := ⟨RX4, "readStand", "()Z"⟩
abbrev cX4_readNumber : ByteArray := prog_6_method_11_code
def yX4_readNumber : MethodName := ⟨RX4, "readNumber", "(II)I"⟩
abbrev cX4_readSign : ByteArray := prog_6_method_12_code
def yX4_readSign : MethodName := ⟨RX4, "readSign", "(I)Z"⟩
def RX5 : String := "HalfDrop$Rolls"
def TX5 : u_T := fun k => match k with
  | 0 => ("HalfDrop$Rolls", "paper", "LHalfDrop$Paper;", false)
  | 1 => ("HalfDrop$Rolls", "opened", "I", false)
  | 2 => ("HalfDrop$Rolls", "used", "[I", true)
  | 3 => ("HalfDrop$Rolls", "cutRoll", "I", false)
  | 4 => ("HalfDrop$Rolls", "cutPlace", "I", false)
  | 5 => ("HalfDrop$Rolls", "leastOf", "[I", true)
  | 6 => ("HalfDrop$Rolls", "longs", "[I", true)
  | _ => ("HalfDrop$Rolls", "phases", "[I", true)
def tyX5 : Nat → FieldType := fun k => match k with
  | 0 => .object "HalfDrop$Paper"
  | 1 => .int
  | 2 => .array .int
  | 3 => .int
  | 4 => .int
  | 5 => .array .int
  | 6 => .array .int
  | _ => .array .int
abbrev wsX50 : List Cond := u_ws RX5 TX5 8
theorem nmX5 : ∀ a, a < 8 → ∀ b, b < 8 → a ≠ b → (TX5 a).2.1 ≠ (TX5 b).2.1 := by decide +kernel
theorem tyX5_ok : ∀ k, k < 8 → parseFieldDescriptor (TX5 k).2.2.1 = some (tyX5 k) := by decide +kernel
abbrev cX5_init : ByteArray := prog_7_method_1_code
def yX5_init : MethodName := ⟨RX5, "<init>", "()V"⟩
abbrev cX5_begin : ByteArray := prog_7_method_2_code
def yX5_begin : MethodName := ⟨RX5, "begin", "(LHalfDrop$Paper;)V"⟩
abbrev cX5_cut : ByteArray := prog_7_method_3_code
def yX5_cut : MethodName := ⟨RX5, "cut", "(II)Z"⟩
abbrev cX5_take : ByteArray := prog_7_method_4_code
def yX5_take : MethodName := ⟨RX5, "take", "(III)V"⟩
abbrev cX5_fewestFor : ByteArray := prog_7_method_5_code
def yX5_fewestFor : MethodName := ⟨RX5, "fewestFor", "(LHalfDrop$Layout;)I"⟩
abbrev cX5_leastFor : ByteArray := prog_7_method_6_code
def yX5_leastFor : MethodName := ⟨RX5, "leastFor", "(II)I"⟩
abbrev cX5_behind : ByteArray := prog_7_method_7_code
def yX5_behind : MethodName := ⟨RX5, "behind", "(II)I"⟩
def RX6 : String := "HalfDrop$Room"
def TX6 : u_T := fun k => match k with
  | 0 => ("HalfDrop$Room", "walls", "LHalfDrop$Walls;", true)
  | 1 => ("HalfDrop$Room", "openings", "I", false)
  | 2 => ("HalfDrop$Room", "doors", "[Z", true)
  | 3 => ("HalfDrop$Room", "openingWalls", "[I", true)
  | 4 => ("HalfDrop$Room", "froms", "[I", true)
  | 5 => ("HalfDrop$Room", "tos", "[I", true)
  | 6 => ("HalfDrop$Room", "lowers", "[I", true)
  | 7 => ("HalfDrop$Room", "uppers", "[I", true)
  | 8 => ("HalfDrop$Room", "stands", "I", false)
  | 9 => ("HalfDrop$Room", "standWalls", "[I", true)
  | 10 => ("HalfDrop$Room", "standXs", "[I", true)
  | _ => ("HalfDrop$Room", "standYs", "[I", true)
def tyX6 : Nat → FieldType := fun k => match k with
  | 0 => .object "HalfDrop$Walls"
  | 1 => .int
  | 2 => .array .boolean
  | 3 => .array .int
  | 4 => .array .int
  | 5 => .array .int
  | 6 => .array .int
  | 7 => .array .int
  | 8 => .int
  | 9 => .array .int
  | 10 => .array .int
  | _ => .array .int
abbrev wsX60 : List Cond := u_ws RX6 TX6 12
theorem nmX6 : ∀ a, a < 12 → ∀ b, b < 12 → a ≠ b → (TX6 a).2.1 ≠ (TX6 b).2.1 := by decide +kernel
theorem tyX6_ok : ∀ k, k < 12 → parseFieldDescriptor (TX6 k).2.2.1 = some (tyX6 k) := by decide +kernel
abbrev cX6_init : ByteArray := prog_8_method_1_code
def yX6_init : MethodName := ⟨RX6, "<init>", "()V"⟩
abbrev cX6_clear : ByteArray := prog_8_method_2_code
def yX6_clear : MethodName := ⟨RX6, "clear", "()V"⟩
abbrev cX6_addOpening : ByteArray := prog_8_method_3_code
def yX6_addOpening : MethodName := ⟨RX6, "addOpening", "(ZIIIII)V"⟩
abbrev cX6_addStand : ByteArray := prog_8_method_4_code
def yX6_addStand : MethodName := ⟨RX6, "addStand", "(III)V"⟩
abbrev cX6_isWindow : ByteArray := prog_8_method_5_code
def yX6_isWindow : MethodName := ⟨RX6, "isWindow", "(I)Z"⟩
abbrev cX6_lowerOf : ByteArray := prog_8_method_6_code
def yX6_lowerOf : MethodName := ⟨RX6, "lowerOf", "(I)I"⟩
abbrev cX6_upperOf : ByteArray := prog_8_method_7_code
def yX6_upperOf : MethodName := ⟨RX6, "upperOf", "(I)I"⟩
abbrev cX6_lies : ByteArray := prog_8_method_8_code
def yX6_lies : MethodName := ⟨RX6, "lies", "(III)Z"⟩
abbrev cX6_openingWith : ByteArray := prog_8_method_9_code
def yX6_openingWith : MethodName := ⟨RX6, "openingWith", "(III)I"⟩
abbrev cX6_opensAt : ByteArray := prog_8_method_10_code
def yX6_opensAt : MethodName := ⟨RX6, "opensAt", "(IIII)Z"⟩
abbrev cX6_doorAtCorner : ByteArray := prog_8_method_11_code
def yX6_doorAtCorner : MethodName := ⟨RX6, "doorAtCorner", "(I)Z"⟩
abbrev cX6_doorsAbove : ByteArray := prog_8_method_12_code
def yX6_doorsAbove : MethodName := ⟨RX6, "doorsAbove", "(I)I"⟩
abbrev cX6_standPlace : ByteArray := prog_8_method_13_code
def yX6_standPlace : MethodName := ⟨RX6, "standPlace", "(I)I"⟩
abbrev cX6_standY : ByteArray := prog_8_method_14_code
def yX6_standY : MethodName := ⟨RX6, "standY", "(I)I"⟩
def RX7 : String := "HalfDrop$Sharing"
def TX7 : u_T := fun k => match k with
  | 0 => ("HalfDrop$Sharing", "batches", "I", false)
  | 1 => ("HalfDrop$Sharing", "papers", "[I", true)
  | 2 => ("HalfDrop$Sharing", "sizes", "[I", true)
  | 3 => ("HalfDrop$Sharing", "room", "LHalfDrop$Room;", false)
  | 4 => ("HalfDrop$Sharing", "paper", "I", false)
  | 5 => ("HalfDrop$Sharing", "number", "I", false)
  | 6 => ("HalfDrop$Sharing", "needs", "[I", true)
  | 7 => ("HalfDrop$Sharing", "hidden", "[Z", true)
  | 8 => ("HalfDrop$Sharing", "given", "[I", true)
  | 9 => ("HalfDrop$Sharing", "chosen", "[I", true)
  | 10 => ("HalfDrop$Sharing", "picked", "[I", true)
  | _ => ("HalfDrop$Sharing", "fewestSeen", "I", false)
def tyX7 : Nat → FieldType := fun k => match k with
  | 0 => .int
  | 1 => .array .int
  | 2 => .array .int
  | 3 => .object "HalfDrop$Room"
  | 4 => .int
  | 5 => .int
  | 6 => .array .int
  | 7 => .array .boolean
  | 8 => .array .int
  | 9 => .array .int
  | 10 => .array .int
  | _ => .int
abbrev wsX70 : List Cond := u_ws RX7 TX7 12
theorem nmX7 : ∀ a, a < 12 → ∀ b, b < 12 → a ≠ b → (TX7 a).2.1 ≠ (TX7 b).2.1 := by decide +kernel
theorem tyX7_ok : ∀ k, k < 12 → parseFieldDescriptor (TX7 k).2.2.1 = some (tyX7 k) := by decide +kernel
abbrev cX7_init : ByteArray := prog_9_method_1_code
def yX7_init : MethodName := ⟨RX7, "<init>", "()V"⟩
abbrev cX7_add : ByteArray := prog_9_method_2_code
def yX7_add : MethodName := ⟨RX7, "add", "(II)I"⟩
abbrev cX7_begin : ByteArray := prog_9_method_3_code
def yX7_begin : MethodName := ⟨RX7, "begin", "(LHalfDrop$Room;I)V"⟩
abbrev cX7_share : ByteArray := prog_9_method_4_code
def yX7_share : MethodName := ⟨RX7, "share", "()Z"⟩
abbrev cX7_choose : ByteArray := prog_9_method_5_code
def yX7_choose : MethodName := ⟨RX7, "choose", "(II)V"⟩
abbrev cX7_pick : ByteArray := prog_9_method_6_code
def yX7_pick : MethodName := ⟨RX7, "pick", "(I)V"⟩
abbrev cX7_seenBetween : ByteArray := prog_9_method_7_code
def yX7_seenBetween : MethodName := ⟨RX7, "seenBetween", "(II)I"⟩
def RX8 : String := "HalfDrop$State"
def TX8 : u_T := fun k => match k with
  | 0 => ("HalfDrop$State", "papers", "[I", true)
  | 1 => ("HalfDrop$State", "starts", "[I", true)
  | 2 => ("HalfDrop$State", "bases", "[I", true)
  | 3 => ("HalfDrop$State", "hungs", "[I", true)
  | 4 => ("HalfDrop$State", "ends", "I", false)
  | 5 => ("HalfDrop$State", "endPapers", "[I", true)
  | 6 => ("HalfDrop$State", "endLengths", "[I", true)
  | _ => ("HalfDrop$State", "endPhases", "[I", true)
def tyX8 : Nat → FieldType := fun k => match k with
  | 0 => .array .int
  | 1 => .array .int
  | 2 => .array .int
  | 3 => .array .int
  | 4 => .int
  | 5 => .array .int
  | 6 => .array .int
  | _ => .array .int
abbrev wsX80 : List Cond := u_ws RX8 TX8 8
theorem nmX8 : ∀ a, a < 8 → ∀ b, b < 8 → a ≠ b → (TX8 a).2.1 ≠ (TX8 b).2.1 := by decide +kernel
theorem tyX8_ok : ∀ k, k < 8 → parseFieldDescriptor (TX8 k).2.2.1 = some (tyX8 k) := by decide +kernel
abbrev cX8_init : ByteArray := prog_10_method_1_code
def yX8_init : MethodName := ⟨RX8, "<init>", "()V"⟩
abbrev cX8_copyFrom : ByteArray := prog_10_method_2_code
def yX8_copyFrom : MethodName := ⟨RX8, "copyFrom", "(LHalfDrop$State;)V"⟩
abbrev cX8_addEnd : ByteArray := prog_10_method_3_code
def yX8_addEnd : MethodName := ⟨RX8, "addEnd", "(III)I"⟩
abbrev cX8_leastEndsFor : ByteArray := prog_10_method_4_code
def yX8_leastEndsFor : MethodName := ⟨RX8, "leastEndsFor", "(LHalfDrop$Layout;II)I"⟩
abbrev cX8_leastOne : ByteArray := prog_10_method_5_code
def yX8_leastOne : MethodName := ⟨RX8, "leastOne", "(I)I"⟩
abbrev cX8_leastPair : ByteArray := prog_10_method_6_code
def yX8_leastPair : MethodName := ⟨RX8, "leastPair", "(II)I"⟩
abbrev cX8_endsFor : ByteArray := prog_10_method_7_code
def yX8_endsFor : MethodName := ⟨RX8, "endsFor", "(LHalfDrop$Layout;II)I"⟩
def RX9 : String := "HalfDrop$Text"
def TX9 : u_T := fun k => match k with
  | 0 => ("HalfDrop$Text", "bytes", "[I", true)
  | 1 => ("HalfDrop$Text", "size", "I", false)
  | 2 => ("HalfDrop$Text", "tokens", "I", false)
  | 3 => ("HalfDrop$Text", "kinds", "[I", true)
  | 4 => ("HalfDrop$Text", "places", "[I", true)
  | _ => ("HalfDrop$Text", "values", "[I", true)
def tyX9 : Nat → FieldType := fun k => match k with
  | 0 => .array .int
  | 1 => .int
  | 2 => .int
  | 3 => .array .int
  | 4 => .array .int
  | _ => .array .int
abbrev wsX90 : List Cond := u_ws RX9 TX9 6
theorem nmX9 : ∀ a, a < 6 → ∀ b, b < 6 → a ≠ b → (TX9 a).2.1 ≠ (TX9 b).2.1 := by decide +kernel
theorem tyX9_ok : ∀ k, k < 6 → parseFieldDescriptor (TX9 k).2.2.1 = some (tyX9 k) := by decide +kernel
abbrev cX9_init : ByteArray := prog_11_method_1_code
def yX9_init : MethodName := ⟨RX9, "<init>", "()V"⟩
abbrev cX9_hasSpaceFor : ByteArray := prog_11_method_2_code
def yX9_hasSpaceFor : MethodName := ⟨RX9, "hasSpaceFor", "(I)Z"⟩
abbrev cX9_add : ByteArray := prog_11_method_3_code
def yX9_add : MethodName := ⟨RX9, "add", "(I)V"⟩
abbrev cX9_shorten : ByteArray := prog_11_method_4_code
def yX9_shorten : MethodName := ⟨RX9, "shorten", "(I)Z"⟩
abbrev cX9_split : ByteArray := prog_11_method_5_code
def yX9_split : MethodName := ⟨RX9, "split", "()V"⟩
abbrev cX9_addToken : ByteArray := prog_11_method_6_code
def yX9_addToken : MethodName := ⟨RX9, "addToken", "(III)V"⟩
abbrev cX9_endOf : ByteArray := prog_11_method_7_code
def yX9_endOf : MethodName := ⟨RX9, "endOf", "(III)I"⟩
abbrev cX9_wordKind : ByteArray := prog_11_method_8_code
def yX9_wordKind : MethodName := ⟨RX9, "wordKind", "(II)I"⟩
abbrev cX9_spells : ByteArray := prog_11_method_9_code
def yX9_spells : MethodName := ⟨RX9, "spells", "(Ljava/lang/String;II)Z"⟩
abbrev cX9_numberFrom : ByteArray := prog_11_method_10_code
def yX9_numberFrom : MethodName := ⟨RX9, "numberFrom", "(II)I"⟩
abbrev cX9_signKind : ByteArray := prog_11_method_11_code
def yX9_signKind : MethodName := ⟨RX9, "signKind", "(I)I"⟩
def RX10 : String := "HalfDrop$Walls"
def TX10 : u_T := fun k => match k with
  | 0 => ("HalfDrop$Walls", "begins", "[I", true)
  | 1 => ("HalfDrop$Walls", "lengths", "[I", true)
  | 2 => ("HalfDrop$Walls", "lefts", "[I", true)
  | 3 => ("HalfDrop$Walls", "rights", "[I", true)
  | 4 => ("HalfDrop$Walls", "leans", "[I", true)
  | 5 => ("HalfDrop$Walls", "leaning", "[Z", true)
  | 6 => ("HalfDrop$Walls", "number", "I", false)
  | _ => ("HalfDrop$Walls", "round", "I", false)
def tyX10 : Nat → FieldType := fun k => match k with
  | 0 => .array .int
  | 1 => .array .int
  | 2 => .array .int
  | 3 => .array .int
  | 4 => .array .int
  | 5 => .array .boolean
  | 6 => .int
  | _ => .int
abbrev wsX100 : List Cond := u_ws RX10 TX10 8
theorem nmX10 : ∀ a, a < 8 → ∀ b, b < 8 → a ≠ b → (TX10 a).2.1 ≠ (TX10 b).2.1 := by decide +kernel
theorem tyX10_ok : ∀ k, k < 8 → parseFieldDescriptor (TX10 k).2.2.1 = some (tyX10 k) := by decide +kernel
abbrev cX10_init : ByteArray := prog_12_method_1_code
def yX10_init : MethodName := ⟨RX10, "<init>", "()V"⟩
abbrev cX10_clear : ByteArray := prog_12_method_2_code
def yX10_clear : MethodName := ⟨RX10, "clear", "()V"⟩
abbrev cX10_add : ByteArray := prog_12_method_3_code
def yX10_add : MethodName := ⟨RX10, "add", "(III)V"⟩
abbrev cX10_lean : ByteArray := prog_12_method_4_code
def yX10_lean : MethodName := ⟨RX10, "lean", "(II)V"⟩
abbrev cX10_has : ByteArray := prog_12_method_5_code
def yX10_has : MethodName := ⟨RX10, "has", "(I)Z"⟩
abbrev cX10_leansAt : ByteArray := prog_12_method_6_code
def yX10_leansAt : MethodName := ⟨RX10, "leansAt", "(I)Z"⟩
abbrev cX10_beginOf : ByteArray := prog_12_method_7_code
def yX10_beginOf : MethodName := ⟨RX10, "beginOf", "(I)I"⟩
abbrev cX10_lengthOf : ByteArray := prog_12_method_8_code
def yX10_lengthOf : MethodName := ⟨RX10, "lengthOf", "(I)I"⟩
abbrev cX10_lesserHeightOf : ByteArray := prog_12_method_9_code
def yX10_lesserHeightOf : MethodName := ⟨RX10, "lesserHeightOf", "(I)I"⟩
abbrev cX10_rightOf : ByteArray := prog_12_method_10_code
def yX10_rightOf : MethodName := ⟨RX10, "rightOf", "(I)I"⟩
abbrev cX10_wallAt : ByteArray := prog_12_method_11_code
def yX10_wallAt : MethodName := ⟨RX10, "wallAt", "(I)I"⟩
abbrev cX10_heightAt : ByteArray := prog_12_method_12_code
def yX10_heightAt : MethodName := ⟨RX10, "heightAt", "(I)I"⟩
abbrev cX10_heightOn : ByteArray := prog_12_method_13_code
def yX10_heightOn : MethodName := ⟨RX10, "heightOn", "(II)I"⟩
abbrev cX10_tallestEndBetween : ByteArray := prog_12_method_14_code
def yX10_tallestEndBetween : MethodName := ⟨RX10, "tallestEndBetween", "(II)I"⟩
abbrev cX10_canBeCutAt : ByteArray := prog_12_method_15_code
def yX10_canBeCutAt : MethodName := ⟨RX10, "canBeCutAt", "(I)Z"⟩
abbrev cX10_runOf : ByteArray := prog_12_method_16_code
def yX10_runOf : MethodName := ⟨RX10, "runOf", "(II)I"⟩
abbrev cX10_shownWith : ByteArray := prog_12_method_17_code
def yX10_shownWith : MethodName := ⟨RX10, "shownWith", "(I)I"⟩
abbrev cX10_leastCuts : ByteArray := prog_12_method_18_code
def yX10_leastCuts : MethodName := ⟨RX10, "leastCuts", "()I"⟩
abbrev cX10_isCut : ByteArray := prog_12_method_19_code
def yX10_isCut : MethodName := ⟨RX10, "isCut", "(II)Z"⟩
abbrev cX10_runsOffAt : ByteArray := prog_12_method_20_code
def yX10_runsOffAt : MethodName := ⟨RX10, "runsOffAt", "(I)I"⟩
def RX11 : String := "HalfDrop"
def TX11 : u_T := fun k => match k with
  | 0 => ("HalfDrop", "text", "LHalfDrop$Text;", true)
  | 1 => ("HalfDrop", "reader", "LHalfDrop$Reader;", true)
  | 2 => ("HalfDrop", "rooms", "[LHalfDrop$Room;", true)
  | 3 => ("HalfDrop", "papers", "[LHalfDrop$Paper;", true)
  | 4 => ("HalfDrop", "now", "LHalfDrop$State;", true)
  | 5 => ("HalfDrop", "images", "[LHalfDrop$State;", true)
  | 6 => ("HalfDrop", "layout", "LHalfDrop$Layout;", true)
  | 7 => ("HalfDrop", "cutRolls", "LHalfDrop$Rolls;", true)
  | 8 => ("HalfDrop", "judge", "LHalfDrop$Judge;", true)
  | 9 => ("HalfDrop", "sharing", "LHalfDrop$Sharing;", true)
  | 10 => ("HalfDrop", "hangingDay", "LHalfDrop$Day;", true)
  | 11 => ("HalfDrop", "spareRoom", "LHalfDrop$Room;", false)
  | 12 => ("HalfDrop", "roomCount", "I", false)
  | 13 => ("HalfDrop", "paperCount", "I", false)
  | _ => ("HalfDrop", "trimNow", "I", false)
def tyX11 : Nat → FieldType := fun k => match k with
  | 0 => .object "HalfDrop$Text"
  | 1 => .object "HalfDrop$Reader"
  | 2 => .array (.object "HalfDrop$Room")
  | 3 => .array (.object "HalfDrop$Paper")
  | 4 => .object "HalfDrop$State"
  | 5 => .array (.object "HalfDrop$State")
  | 6 => .object "HalfDrop$Layout"
  | 7 => .object "HalfDrop$Rolls"
  | 8 => .object "HalfDrop$Judge"
  | 9 => .object "HalfDrop$Sharing"
  | 10 => .object "HalfDrop$Day"
  | 11 => .object "HalfDrop$Room"
  | 12 => .int
  | 13 => .int
  | _ => .int
abbrev wsX110 : List Cond := u_ws RX11 TX11 15
theorem nmX11 : ∀ a, a < 15 → ∀ b, b < 15 → a ≠ b → (TX11 a).2.1 ≠ (TX11 b).2.1 := by decide +kernel
theorem tyX11_ok : ∀ k, k < 15 → parseFieldDescriptor (TX11 k).2.2.1 = some (tyX11 k) := by decide +kernel
abbrev cX11_init : ByteArray := prog_1_method_1_code
def yX11_init : MethodName := ⟨RX11, "<init>", "()V"⟩
abbrev cX11_feed : ByteArray := prog_1_method_2_code
def yX11_feed : MethodName := ⟨RX11, "feed", "(IIIII)I"⟩
abbrev cX11_end : ByteArray := prog_1_method_3_code
def yX11_end : MethodName := ⟨RX11, "end", "(I)Z"⟩
abbrev cX11_fault : ByteArray := prog_1_method_4_code
def yX11_fault : MethodName := ⟨RX11, "fault", "()I"⟩
abbrev cX11_room : ByteArray := prog_1_method_5_code
def yX11_room : MethodName := ⟨RX11, "room", "()I"⟩
abbrev cX11_of : ByteArray := prog_1_method_6_code
def yX11_of : MethodName := ⟨RX11, "of", "(II)I"⟩
abbrev cX11_height : ByteArray := prog_1_method_7_code
def yX11_height : MethodName := ⟨RX11, "height", "(II)I"⟩
abbrev cX11_paper : ByteArray := prog_1_method_8_code
def yX11_paper : MethodName := ⟨RX11, "paper", "(IIIII)I"⟩
abbrev cX11_trim : ByteArray := prog_1_method_9_code
def yX11_trim : MethodName := ⟨RX11, "trim", "(I)Z"⟩
abbrev cX11_done : ByteArray := prog_1_method_10_code
def yX11_done : MethodName := ⟨RX11, "done", "(IIII)I"⟩
abbrev cX11_strip : ByteArray := prog_1_method_11_code
def yX11_strip : MethodName := ⟨RX11, "strip", "(III)I"⟩
abbrev cX11_piece : ByteArray := prog_1_method_12_code
def yX11_piece : MethodName := ⟨RX11, "piece", "(III)I"⟩
abbrev cX11_rolls : ByteArray := prog_1_method_13_code
def yX11_rolls : MethodName := ⟨RX11, "rolls", "(II)I"⟩
abbrev cX11_left : ByteArray := prog_1_method_14_code
def yX11_left : MethodName := ⟨RX11, "left", "(III)I"⟩
abbrev cX11_faults : ByteArray := prog_1_method_15_code
def yX11_faults : MethodName := ⟨RX11, "faults", "(II)I"⟩
abbrev cX11_best : ByteArray := prog_1_method_16_code
def yX11_best : MethodName := ⟨RX11, "best", "(IIII)I"⟩
abbrev cX11_shown : ByteArray := prog_1_method_17_code
def yX11_shown : MethodName := ⟨RX11, "shown", "(II)I"⟩
abbrev cX11_run : ByteArray := prog_1_method_18_code
def yX11_run : MethodName := ⟨RX11, "run", "(III)I"⟩
abbrev cX11_cuts : ByteArray := prog_1_method_19_code
def yX11_cuts : MethodName := ⟨RX11, "cuts", "(I)I"⟩
abbrev cX11_batch : ByteArray := prog_1_method_20_code
def yX11_batch : MethodName := ⟨RX11, "batch", "(II)I"⟩
abbrev cX11_shared : ByteArray := prog_1_method_21_code
def yX11_shared : MethodName := ⟨RX11, "shared", "(II)I"⟩
abbrev cX11_own : ByteArray := prog_1_method_22_code
def yX11_own : MethodName := ⟨RX11, "own", "(II)I"⟩
abbrev cX11_all : ByteArray := prog_1_method_23_code
def yX11_all : MethodName := ⟨RX11, "all", "(I)I"⟩
abbrev cX11_keep : ByteArray := prog_1_method_24_code
def yX11_keep : MethodName := ⟨RX11, "keep", "(III)I"⟩
abbrev cX11_mended : ByteArray := prog_1_method_25_code
def yX11_mended : MethodName := ⟨RX11, "mended", "(II)I"⟩
abbrev cX11_border : ByteArray := prog_1_method_26_code
def yX11_border : MethodName := ⟨RX11, "border", "(III)I"⟩
abbrev cX11_day : ByteArray := prog_1_method_27_code
def yX11_day : MethodName := ⟨RX11, "day", "(IIIII)I"⟩
abbrev cX11_hang : ByteArray := prog_1_method_28_code
def yX11_hang : MethodName := ⟨RX11, "hang", "(II)I"⟩
abbrev cX11_image : ByteArray := prog_1_method_29_code
def yX11_image : MethodName := ⟨RX11, "image", "(I)Z"⟩
abbrev cX11_on : ByteArray := prog_1_method_30_code
def yX11_on : MethodName := ⟨RX11, "on", "(I)Z"⟩
abbrev cX11_count : ByteArray := prog_1_method_31_code
def yX11_count : MethodName := ⟨RX11, "count", "(I)I"⟩
abbrev cX11_roomAt : ByteArray := prog_1_method_32_code
def yX11_roomAt : MethodName := ⟨RX11, "roomAt", "(I)LHalfDrop$Room;"⟩
abbrev cX11_paperAt : ByteArray := prog_1_method_33_code
def yX11_paperAt : MethodName := ⟨RX11, "paperAt", "(I)LHalfDrop$Paper;"⟩
abbrev cX11_lay : ByteArray := prog_1_method_34_code
def yX11_lay : MethodName := ⟨RX11, "lay", "(I)Z"⟩
abbrev cX11_cutWholeRoom : ByteArray := prog_1_method_35_code
def yX11_cutWholeRoom : MethodName := ⟨RX11, "cutWholeRoom", "()Z"⟩
abbrev cX11_rollsOfWall : ByteArray := prog_1_method_36_code
def yX11_rollsOfWall : MethodName := ⟨RX11, "rollsOfWall", "(I)I"⟩
abbrev cX11_shareRoom : ByteArray := prog_1_method_37_code
def yX11_shareRoom : MethodName := ⟨RX11, "shareRoom", "(I)Z"⟩
abbrev cX11_isFrom : ByteArray := prog_1_method_38_code
def yX11_isFrom : MethodName := ⟨RX11, "isFrom", "(III)Z"⟩
abbrev cX11_rest : ByteArray := prog_1_method_39_code
def yX11_rest : MethodName := ⟨RX11, "rest", "(II)I"⟩
abbrev cX11_cutUp : ByteArray := prog_1_method_40_code
def yX11_cutUp : MethodName := ⟨RX11, "cutUp", "(II)I"⟩
def RX12 : String := "HalfDropModel"
def TX12 : u_T := fun k => match k with
  | 0 => ("HalfDropModel", "length", "[[I", true)
  | 1 => ("HalfDropModel", "high", "[[I", true)
  | 2 => ("HalfDropModel", "highTo", "[[I", true)
  | 3 => ("HalfDropModel", "lean", "[[I", true)
  | 4 => ("HalfDropModel", "openWall", "[[I", true)
  | 5 => ("HalfDropModel", "openFrom", "[[I", true)
  | 6 => ("HalfDropModel", "openTo", "[[I", true)
  | 7 => ("HalfDropModel", "openLow", "[[I", true)
  | 8 => ("HalfDropModel", "openHigh", "[[I", true)
  | 9 => ("HalfDropModel", "isDoor", "[[I", true)
  | 10 => ("HalfDropModel", "standWall", "[[I", true)
  | 11 => ("HalfDropModel", "standX", "[[I", true)
  | 12 => ("HalfDropModel", "standY", "[[I", true)
  | 13 => ("HalfDropModel", "walls", "[I", true)
  | 14 => ("HalfDropModel", "openings", "[I", true)
  | 15 => ("HalfDropModel", "stands", "[I", true)
  | 16 => ("HalfDropModel", "leans", "[I", true)
  | 17 => ("HalfDropModel", "round", "[I", true)
  | 18 => ("HalfDropModel", "rooms", "I", false)
  | 19 => ("HalfDropModel", "text", "[B", true)
  | 20 => ("HalfDropModel", "textMany", "I", false)
  | 21 => ("HalfDropModel", "at", "I", false)
  | 22 => ("HalfDropModel", "to", "I", false)
  | 23 => ("HalfDropModel", "faultAt", "I", false)
  | 24 => ("HalfDropModel", "value", "I", false)
  | 25 => ("HalfDropModel", "words", "[Ljava/lang/String;", true)
  | 26 => ("HalfDropModel", "width", "[I", true)
  | 27 => ("HalfDropModel", "repeat", "[I", true)
  | 28 => ("HalfDropModel", "drop", "[I", true)
  | 29 => ("HalfDropModel", "roll", "[I", true)
  | 30 => ("HalfDropModel", "figureFrom", "[I", true)
  | 31 => ("HalfDropModel", "figureHigh", "[I", true)
  | 32 => ("HalfDropModel", "papers", "I", false)
  | 33 => ("HalfDropModel", "trim", "I", false)
  | 34 => ("HalfDropModel", "paperOf", "[I", true)
  | 35 => ("HalfDropModel", "startOf", "[I", true)
  | 36 => ("HalfDropModel", "baseOf", "[I", true)
  | 37 => ("HalfDropModel", "hung", "[I", true)
  | 38 => ("HalfDropModel", "stripAt", "[I", true)
  | 39 => ("HalfDropModel", "stripTall", "[I", true)
  | 40 => ("HalfDropModel", "stripFirst", "[I", true)
  | 41 => ("HalfDropModel", "stripMany", "[I", true)
  | 42 => ("HalfDropModel", "pieceStrip", "[I", true)
  | 43 => ("HalfDropModel", "pieceFrom", "[I", true)
  | 44 => ("HalfDropModel", "pieceTo", "[I", true)
  | 45 => ("HalfDropModel", "pieceRoll", "[I", true)
  | 46 => ("HalfDropModel", "pieceAt", "[I", true)
  | 47 => ("HalfDropModel", "pieces", "I", false)
  | 48 => ("HalfDropModel", "strips", "I", false)
  | 49 => ("HalfDropModel", "paper", "I", false)
  | 50 => ("HalfDropModel", "tall", "I", false)
  | 51 => ("HalfDropModel", "onlyWall", "I", false)
  | 52 => ("HalfDropModel", "onlyFrom", "I", false)
  | 53 => ("HalfDropModel", "onlyTo", "I", false)
  | 54 => ("HalfDropModel", "used", "[I", true)
  | 55 => ("HalfDropModel", "rolls", "I", false)
  | 56 => ("HalfDropModel", "heap", "[I", true)
  | 57 => ("HalfDropModel", "runs", "[I", true)
  | 58 => ("HalfDropModel", "batchPaper", "[I", true)
  | 59 => ("HalfDropModel", "batchRolls", "[I", true)
  | 60 => ("HalfDropModel", "ownRolls", "[I", true)
  | 61 => ("HalfDropModel", "from", "[I", true)
  | 62 => ("HalfDropModel", "bestFrom", "[I", true)
  | 63 => ("HalfDropModel", "given", "[I", true)
  | 64 => ("HalfDropModel", "batches", "I", false)
  | 65 => ("HalfDropModel", "bestSeen", "I", false)
  | 66 => ("HalfDropModel", "endPaper", "[I", true)
  | 67 => ("HalfDropModel", "endLength", "[I", true)
  | 68 => ("HalfDropModel", "endPhase", "[I", true)
  | 69 => ("HalfDropModel", "ends", "I", false)
  | 70 => ("HalfDropModel", "keptRooms", "[[I", true)
  | 71 => ("HalfDropModel", "keptEnds", "[[I", true)
  | 72 => ("HalfDropModel", "keptMany", "[I", true)
  | 73 => ("HalfDropModel", "keptRoomMany", "[I", true)
  | _ => ("HalfDropModel", "hasImage", "[Z", true)
def tyX12 : Nat → FieldType := fun k => match k with
  | 0 => .array (.array .int)
  | 1 => .array (.array .int)
  | 2 => .array (.array .int)
  | 3 => .array (.array .int)
  | 4 => .array (.array .int)
  | 5 => .array (.array .int)
  | 6 => .array (.array .int)
  | 7 => .array (.array .int)
  | 8 => .array (.array .int)
  | 9 => .array (.array .int)
  | 10 => .array (.array .int)
  | 11 => .array (.array .int)
  | 12 => .array (.array .int)
  | 13 => .array .int
  | 14 => .array .int
  | 15 => .array .int
  | 16 => .array .int
  | 17 => .array .int
  | 18 => .int
  | 19 => .array .byte
  | 20 => .int
  | 21 => .int
  | 22 => .int
  | 23 => .int
  | 24 => .int
  | 25 => .array (.object "java/lang/String")
  | 26 => .array .int
  | 27 => .array .int
  | 28 => .array .int
  | 29 => .array .int
  | 30 => .array .int
  | 31 => .array .int
  | 32 => .int
  | 33 => .int
  | 34 => .array .int
  | 35 => .array .int
  | 36 => .array .int
  | 37 => .array .int
  | 38 => .array .int
  | 39 => .array .int
  | 40 => .array .int
  | 41 => .array .int
  | 42 => .array .int
  | 43 => .array .int
  | 44 => .array .int
  | 45 => .array .int
  | 46 => .array .int
  | 47 => .int
  | 48 => .int
  | 49 => .int
  | 50 => .int
  | 51 => .int
  | 52 => .int
  | 53 => .int
  | 54 => .array .int
  | 55 => .int
  | 56 => .array .int
  | 57 => .array .int
  | 58 => .array .int
  | 59 => .array .int
  | 60 => .array .int
  | 61 => .array .int
  | 62 => .array .int
  | 63 => .array .int
  | 64 => .int
  | 65 => .int
  | 66 => .array .int
  | 67 => .array .int
  | 68 => .array .int
  | 69 => .int
  | 70 => .array (.array .int)
  | 71 => .array (.array .int)
  | 72 => .array .int
  | 73 => .array .int
  | _ => .array .boolean
abbrev wsX120 : List Cond := u_ws RX12 TX12 75
theorem nmX12 : ∀ a, a < 75 → ∀ b, b < 75 → a ≠ b → (TX12 a).2.1 ≠ (TX12 b).2.1 := by decide +kernel
theorem tyX12_ok : ∀ k, k < 75 → parseFieldDescriptor (TX12 k).2.2.1 = some (tyX12 k) := by decide +kernel
abbrev cX12_init : ByteArray := prog_14_method_1_code
def yX12_init : MethodName := ⟨RX12, "<init>", "()V"⟩
abbrev cX12_in : ByteArray := prog_14_method_2_code
def yX12_in : MethodName := ⟨RX12, "in", "(JJJ)Z"⟩
abbrev cX12_feeds : ByteArray := prog_14_method_3_code
def yX12_feeds : MethodName := ⟨RX12, "feeds", "(I)V"⟩
abbrev cX12_feed : ByteArray := prog_14_method_4_code
def yX12_feed : MethodName := ⟨RX12, "feed", "(IIIII)I"⟩
abbrev cX12_end : ByteArray := prog_14_method_5_code
def yX12_end : MethodName := ⟨RX12, "end", "(I)Z"⟩
abbrev cX12_between : ByteArray := prog_14_method_6_code
def yX12_between : MethodName := ⟨RX12, "between", "(III)Z"⟩
abbrev cX12_next : ByteArray := prog_14_method_7_code
def yX12_next : MethodName := ⟨RX12, "next", "()V"⟩
abbrev cX12_passes : ByteArray := prog_14_method_8_code
def yX12_passes : MethodName := ⟨RX12, "passes", "(Z)Z"⟩
abbrev cX12_isWord : ByteArray := prog_14_method_9_code
def yX12_isWord : MethodName := ⟨RX12, "isWord", "(I)Z"⟩
abbrev cX12_isSign : ByteArray := prog_14_method_10_code
def yX12_isSign : MethodName := ⟨RX12, "isSign", "(I)Z"⟩
abbrev cX12_number : ByteArray := prog_14_method_11_code
def yX12_number : MethodName := ⟨RX12, "number", "(II)Z"⟩
abbrev cX12_lesser : ByteArray := prog_14_method_12_code
def yX12_lesser : MethodName := ⟨RX12, "lesser", "(II)I"⟩
abbrev cX12_wallRead : ByteArray := prog_14_method_13_code
def yX12_wallRead : MethodName := ⟨RX12, "wallRead", "()Z"⟩
abbrev cX12_openingRead : ByteArray := prog_14_method_14_code
def yX12_openingRead : MethodName := ⟨RX12, "openingRead", "(Z)Z"⟩
abbrev cX12_leanRead : ByteArray := prog_14_method_15_code
def yX12_leanRead : MethodName := ⟨RX12, "leanRead", "()Z"⟩
abbrev cX12_standRead : ByteArray := prog_14_method_16_code
def yX12_standRead : MethodName := ⟨RX12, "standRead", "()Z"⟩
abbrev cX12_line : ByteArray := prog_14_method_17_code
def yX12_line : MethodName := ⟨RX12, "line", "()Z"⟩
abbrev cX12_reads : ByteArray := prog_14_method_18_code
def yX12_reads : MethodName := ⟨RX12, "reads", "()V"⟩
abbrev cX12_fault : ByteArray := prog_14_method_19_code
def yX12_fault : MethodName := ⟨RX12, "fault", "()I"⟩
abbrev cX12_room : ByteArray := prog_14_method_20_code
def yX12_room : MethodName := ⟨RX12, "room", "()I"⟩
abbrev cX12_isRoom : ByteArray := prog_14_method_21_code
def yX12_isRoom : MethodName := ⟨RX12, "isRoom", "(I)Z"⟩
abbrev cX12_highAt : ByteArray := prog_14_method_22_code
def yX12_highAt : MethodName := ⟨RX12, "highAt", "(III)I"⟩
abbrev cX12_beginOf : ByteArray := prog_14_method_23_code
def yX12_beginOf : MethodName := ⟨RX12, "beginOf", "(II)I"⟩
abbrev cX12_wallAt : ByteArray := prog_14_method_24_code
def yX12_wallAt : MethodName := ⟨RX12, "wallAt", "(II)I"⟩
abbrev cX12_height : ByteArray := prog_14_method_25_code
def yX12_height : MethodName := ⟨RX12, "height", "(II)I"⟩
abbrev cX12_paper : ByteArray := prog_14_method_26_code
def yX12_paper : MethodName := ⟨RX12, "paper", "(IIIII)I"⟩
abbrev cX12_isPaper : ByteArray := prog_14_method_27_code
def yX12_isPaper : MethodName := ⟨RX12, "isPaper", "(I)Z"⟩
abbrev cX12_trim : ByteArray := prog_14_method_28_code
def yX12_trim : MethodName := ⟨RX12, "trim", "(I)Z"⟩
abbrev cX12_isDone : ByteArray := prog_14_method_29_code
def yX12_isDone : MethodName := ⟨RX12, "isDone", "(I)Z"⟩
abbrev cX12_stripsOf : ByteArray := prog_14_method_30_code
def yX12_stripsOf : MethodName := ⟨RX12, "stripsOf", "(II)I"⟩
abbrev cX12_wideOf : ByteArray := prog_14_method_31_code
def yX12_wideOf : MethodName := ⟨RX12, "wideOf", "(III)I"⟩
abbrev cX12_offsetOf : ByteArray := prog_14_method_32_code
def yX12_offsetOf : MethodName := ⟨RX12, "offsetOf", "(III)I"⟩
abbrev cX12_done : ByteArray := prog_14_method_33_code
def yX12_done : MethodName := ⟨RX12, "done", "(IIII)I"⟩
abbrev cX12_measures : ByteArray := prog_14_method_34_code
def yX12_measures : MethodName := ⟨RX12, "measures", "(III)V"⟩
abbrev cX12_adds : ByteArray := prog_14_method_35_code
def yX12_adds : MethodName := ⟨RX12, "adds", "(III)V"⟩
abbrev cX12_cuts : ByteArray := prog_14_method_36_code
def yX12_cuts : MethodName := ⟨RX12, "cuts", "(II)V"⟩
abbrev cX12_lays : ByteArray := prog_14_method_37_code
def yX12_lays : MethodName := ⟨RX12, "lays", "(I)V"⟩
abbrev cX12_longOf : ByteArray := prog_14_method_38_code
def yX12_longOf : MethodName := ⟨RX12, "longOf", "(I)I"⟩
abbrev cX12_phaseOf : ByteArray := prog_14_method_39_code
def yX12_phaseOf : MethodName := ⟨RX12, "phaseOf", "(II)I"⟩
abbrev cX12_of : ByteArray := prog_14_method_40_code
def yX12_of : MethodName := ⟨RX12, "of", "(II)I"⟩
abbrev cX12_strip : ByteArray := prog_14_method_41_code
def yX12_strip : MethodName := ⟨RX12, "strip", "(III)I"⟩
abbrev cX12_placeIn : ByteArray := prog_14_method_42_code
def yX12_placeIn : MethodName := ⟨RX12, "placeIn", "(II)I"⟩
abbrev cX12_cutsFrom : ByteArray := prog_14_method_43_code
def yX12_cutsFrom : MethodName := ⟨RX12, "cutsFrom", "(II)Z"⟩
abbrev cX12_fitsAll : ByteArray := prog_14_method_44_code
def yX12_fitsAll : MethodName := ⟨RX12, "fitsAll", "(I)Z"⟩
abbrev cX12_piece : ByteArray := prog_14_method_45_code
def yX12_piece : MethodName := ⟨RX12, "piece", "(III)I"⟩
abbrev cX12_fewest : ByteArray := prog_14_method_46_code
def yX12_fewest : MethodName := ⟨RX12, "fewest", "(I)I"⟩
abbrev cX12_rolls : ByteArray := prog_14_method_47_code
def yX12_rolls : MethodName := ⟨RX12, "rolls", "(II)I"⟩
abbrev cX12_left : ByteArray := prog_14_method_48_code
def yX12_left : MethodName := ⟨RX12, "left", "(III)I"⟩
abbrev cX12_seamOf : ByteArray := prog_14_method_49_code
def yX12_seamOf : MethodName := ⟨RX12, "seamOf", "(III)I"⟩
abbrev cX12_narrowOf : ByteArray := prog_14_method_50_code
def yX12_narrowOf : MethodName := ⟨RX12, "narrowOf", "(II)I"⟩
abbrev cX12_isWhole : ByteArray := prog_14_method_51_code
def yX12_isWhole : MethodName := ⟨RX12, "isWhole", "(IIIII)Z"⟩
abbrev cX12_notWhole : ByteArray := prog_14_method_52_code
def yX12_notWhole : MethodName := ⟨RX12, "notWhole", "(IIII)I"⟩
abbrev cX12_faultsOf : ByteArray := prog_14_method_53_code
def yX12_faultsOf : MethodName := ⟨RX12, "faultsOf", "(IIII)I"⟩
abbrev cX12_faults : ByteArray := prog_14_method_54_code
def yX12_faults : MethodName := ⟨RX12, "faults", "(II)I"⟩
abbrev cX12_best : ByteArray := prog_14_method_55_code
def yX12_best : MethodName := ⟨RX12, "best", "(IIII)I"⟩
abbrev cX12_runsOf : ByteArray := prog_14_method_56_code
def yX12_runsOf : MethodName := ⟨RX12, "runsOf", "(II)I"⟩
abbrev cX12_areCuts : ByteArray := prog_14_method_57_code
def yX12_areCuts : MethodName := ⟨RX12, "areCuts", "(II)Z"⟩
abbrev cX12_shown : ByteArray := prog_14_method_58_code
def yX12_shown : MethodName := ⟨RX12, "shown", "(II)I"⟩
abbrev cX12_run : ByteArray := prog_14_method_59_code
def yX12_run : MethodName := ⟨RX12, "run", "(III)I"⟩
abbrev cX12_cuts_ : ByteArray := prog_14_method_60_code
def yX12_cuts_ : MethodName := ⟨RX12, "cuts", "(I)I"⟩
abbrev cX12_batch : ByteArray := prog_14_method_61_code
def yX12_batch : MethodName := ⟨RX12, "batch", "(II)I"⟩
abbrev cX12_ownOf : ByteArray := prog_14_method_62_code
def yX12_ownOf : MethodName := ⟨RX12, "ownOf", "(II)I"⟩
abbrev cX12_own : ByteArray := prog_14_method_63_code
def yX12_own : MethodName := ⟨RX12, "own", "(II)I"⟩
abbrev cX12_hasDoor : ByteArray := prog_14_method_64_code
def yX12_hasDoor : MethodName := ⟨RX12, "hasDoor", "(II)Z"⟩
abbrev cX12_shares : ByteArray := prog_14_method_65_code
def yX12_shares : MethodName := ⟨RX12, "shares", "(II)V"⟩
abbrev cX12_shared : ByteArray := prog_14_method_66_code
def yX12_shared : MethodName := ⟨RX12, "shared", "(II)I"⟩
abbrev cX12_all : ByteArray := prog_14_method_67_code
def yX12_all : MethodName := ⟨RX12, "all", "(I)I"⟩
abbrev cX12_keep : ByteArray := prog_14_method_68_code
def yX12_keep : MethodName := ⟨RX12, "keep", "(III)I"⟩
abbrev cX12_canCut : ByteArray := prog_14_method_69_code
def yX12_canCut : MethodName := ⟨RX12, "canCut", "(III)Z"⟩
abbrev cX12_mended : ByteArray := prog_14_method_70_code
def yX12_mended : MethodName := ⟨RX12, "mended", "(II)I"⟩
abbrev cX12_border : ByteArray := prog_14_method_71_code
def yX12_border : MethodName := ⟨RX12, "border", "(III)I"⟩
abbrev cX12_longAll : ByteArray := prog_14_method_72_code
def yX12_longAll : MethodName := ⟨RX12, "longAll", "(I)I"⟩
abbrev cX12_day : ByteArray := prog_14_method_73_code
def yX12_day : MethodName := ⟨RX12, "day", "(IIIII)I"⟩
abbrev cX12_hang : ByteArray := prog_14_method_74_code
def yX12_hang : MethodName := ⟨RX12, "hang", "(II)I"⟩
abbrev cX12_image : ByteArray := prog_14_method_75_code
def yX12_image : MethodName := ⟨RX12, "image", "(I)Z"⟩
abbrev cX12_on : ByteArray := prog_14_method_76_code
def yX12_on : MethodName := ⟨RX12, "on", "(I)Z"⟩
abbrev cX12_count : ByteArray := prog_14_method_77_code
def yX12_count : MethodName := ⟨RX12, "count", "(I)I"⟩
def RJ6 : String := "java/lang/Integer"
def TJ6 : u_T := fun k => match k with
  | _ => ("", "", "", false)
def tyJ6 : Nat → FieldType := fun k => match k with
  | _ => .int
theorem nmJ6 : ∀ a, a < 0 → ∀ b, b < 0 → a ≠ b → (TJ6 a).2.1 ≠ (TJ6 b).2.1 := by decide +kernel
theorem tyJ6_ok : ∀ k, k < 0 → parseFieldDescriptor (TJ6 k).2.2.1 = some (tyJ6 k) := by decide +kernel
abbrev cJ6_bitCount_0f7a4 : ByteArray := prog_15_method_49_code
def yJ6_bitCount_0f7a4 : MethodName := ⟨RJ6, "bitCount", "(I)I"⟩
def RJ9 : String := "java/lang/Math"
def TJ9 : u_T := fun k => match k with
  | _ => ("", "", "", false)
def tyJ9 : Nat → FieldType := fun k => match k with
  | _ => .int
theorem nmJ9 : ∀ a, a < 0 → ∀ b, b < 0 → a ≠ b → (TJ9 a).2.1 ≠ (TJ9 b).2.1 := by decide +kernel
theorem tyJ9_ok : ∀ k, k < 0 → parseFieldDescriptor (TJ9 k).2.2.1 = some (tyJ9 k) := by decide +kernel
abbrev cJ9_floorDiv_7cf53 : ByteArray := prog_16_method_47_code
def yJ9_floorDiv_7cf53 : MethodName := ⟨RJ9, "floorDiv", "(II)I"⟩
abbrev cJ9_floorMod_7cf53 : ByteArray := prog_16_method_50_code
def yJ9_floorMod_7cf53 : MethodName := ⟨RJ9, "floorMod", "(II)I"⟩
abbrev cJ9_abs_0f7a4 : ByteArray := prog_16_method_59_code
def yJ9_abs_0f7a4 : MethodName := ⟨RJ9, "abs", "(I)I"⟩
abbrev cJ9_max_7cf53 : ByteArray := prog_16_method_65_code
def yJ9_max_7cf53 : MethodName := ⟨RJ9, "max", "(II)I"⟩
abbrev cJ9_min_7cf53 : ByteArray := prog_16_method_69_code
def yJ9_min_7cf53 : MethodName := ⟨RJ9, "min", "(II)I"⟩
def RJ0 : String := "java/lang/String"
def TJ0 : u_T := fun k => match k with
  | _ => ("", "", "", false)
def tyJ0 : Nat → FieldType := fun k => match k with
  | _ => .int
theorem nmJ0 : ∀ a, a < 0 → ∀ b, b < 0 → a ≠ b → (TJ0 a).2.1 ≠ (TJ0 b).2.1 := by decide +kernel
theorem tyJ0_ok : ∀ k, k < 0 → parseFieldDescriptor (TJ0 k).2.2.1 = some (tyJ0 k) := by decide +kernel
abbrev cJ0_length_8abf5 : ByteArray := prog_17_method_54_code
def yJ0_length_8abf5 : MethodName := ⟨RJ0, "length", "()I"⟩
abbrev cJ0_charAt_5068e : ByteArray := prog_17_method_56_code
def yJ0_charAt_5068e : MethodName := ⟨RJ0, "charAt", "(I)C"⟩
abbrev cJ0_coder_7d493 : ByteArray := prog_17_method_152_code
def yJ0_coder_7d493 : MethodName := ⟨RJ0, "coder", "()B"⟩
abbrev cJ0_isLatin1_aae02 : ByteArray := prog_17_method_154_code
def yJ0_isLatin1_aae02 : MethodName := ⟨RJ0, "isLatin1", "()Z"⟩
abbrev cJ0_checkIndex_df160 : ByteArray := prog_17_method_155_code
def yJ0_checkIndex_df160 : MethodName := ⟨RJ0, "checkIndex", "(II)V"⟩
def RJ1 : String := "java/lang/StringLatin1"
def TJ1 : u_T := fun k => match k with
  | _ => ("", "", "", false)
def tyJ1 : Nat → FieldType := fun k => match k with
  | _ => .int
theorem nmJ1 : ∀ a, a < 0 → ∀ b, b < 0 → a ≠ b → (TJ1 a).2.1 ≠ (TJ1 b).2.1 := by decide +kernel
theorem tyJ1_ok : ∀ k, k < 0 → parseFieldDescriptor (TJ1 k).2.2.1 = some (tyJ1 k) := by decide +kernel
abbrev cJ1_charAt_3b067 : ByteArray := prog_18_method_2_code
def yJ1_charAt_3b067 : MethodName := ⟨RJ1, "charAt", "([BI)C"⟩
def RJ2 : String := "java/lang/StringUTF16"
def TJ2 : u_T := fun k => match k with
  | _ => ("", "", "", false)
def tyJ2 : Nat → FieldType := fun k => match k with
  | _ => .int
theorem nmJ2 : ∀ a, a < 0 → ∀ b, b < 0 → a ≠ b → (TJ2 a).2.1 ≠ (TJ2 b).2.1 := by decide +kernel
theorem tyJ2_ok : ∀ k, k < 0 → parseFieldDescriptor (TJ2 k).2.2.1 = some (tyJ2 k) := by decide +kernel
abbrev cJ2_getChar_3b067 : ByteArray := prog_19_method_5_code
def yJ2_getChar_3b067 : MethodName := ⟨RJ2, "getChar", "([BI)C"⟩
abbrev cJ2_length_9d52b : ByteArray := prog_19_method_6_code
def yJ2_length_9d52b : MethodName := ⟨RJ2, "length", "([B)I"⟩
abbrev cJ2_charAt_3b067 : ByteArray := prog_19_method_83_code
def yJ2_charAt_3b067 : MethodName := ⟨RJ2, "charAt", "([BI)C"⟩
abbrev cJ2_checkIndex_2214a : ByteArray := prog_19_method_91_code
def yJ2_checkIndex_2214a : MethodName := ⟨RJ2, "checkIndex", "(I[B)V"⟩
def RJ3 : String := "jdk/internal/util/Preconditions"
def TJ3 : u_T := fun k => match k with
  | _ => ("", "", "", false)
def tyJ3 : Nat → FieldType := fun k => match k with
  | _ => .int
theorem nmJ3 : ∀ a, a < 0 → ∀ b, b < 0 → a ≠ b → (TJ3 a).2.1 ≠ (TJ3 b).2.1 := by decide +kernel
theorem tyJ3_ok : ∀ k, k < 0 → parseFieldDescriptor (TJ3 k).2.2.1 = some (tyJ3 k) := by decide +kernel
abbrev cJ3_checkIndex_8e157 : ByteArray := prog_20_method_11_code
def yJ3_checkIndex_8e157 : MethodName := ⟨RJ3, "checkIndex", "(IILjava/util/function/BiFunction;)I"⟩
def RL : String := "HalfDropLaw"
abbrev cL_law : ByteArray := code
def yL_law : MethodName := ⟨RL, "law", "([I)Z"⟩
abbrev vwCl : List vw_C := [(RX0, TX0, 7), (RX1, TX1, 9), (RX2, TX2, 16), (RX3, TX3, 6), (RX4, TX4, 3), (RX5, TX5, 8), (RX6, TX6, 12), (RX7, TX7, 12), (RX8, TX8, 8), (RX9, TX9, 6), (RX10, TX10, 8), (RX11, TX11, 15), (RX12, TX12, 75)]
end
section
theorem dX0_init_0 : decode cX0_init 0 = .ok (.aload_n 0, 1) := by decide +kernel
theorem dX0_init_1 : decode cX0_init 1 = .ok (.invokespecial 1, 3) := by decide +kernel
theorem dX0_init_4 : decode cX0_init 4 = .ok (.aload_n 0, 1) := by decide +kernel
theorem dX0_init_5 : decode cX0_init 5 = .ok (.iconst 2, 1) := by decide +kernel
theorem dX0_init_6 : decode cX0_init 6 = .ok (.newarray .int, 2) := by decide +kernel
theorem dX0_init_8 : decode cX0_init 8 = .ok (.putfield 9, 3) := by decide +kernel
theorem dX0_init_11 : decode cX0_init 11 = .ok (.return_, 1) := by decide +kernel
theorem dX1_init_0 : decode cX1_init 0 = .ok (.aload_n 0, 1) := by decide +kernel
theorem dX1_init_1 : decode cX1_init 1 = .ok (.invokespecial 5, 3) := by decide +kernel
theorem dX1_init_4 : decode cX1_init 4 = .ok (.aload_n 0, 1) := by decide +kernel
theorem dX1_init_5 : decode cX1_init 5 = .ok (.bipush 120, 2) := by decide +kernel
theorem dX1_init_7 : decode cX1_init 7 = .ok (.newarray .int, 2) := by decide +kernel
theorem dX1_init_9 : decode cX1_init 9 = .ok (.putfield 11, 3) := by decide +kernel
theorem dX1_init_12 : decode cX1_init 12 = .ok (.aload_n 0, 1) := by decide +kernel
theorem dX1_init_13 : decode cX1_init 13 = .ok (.sipush 256, 3) := by decide +kernel
theorem dX1_init_16 : decode cX1_init 16 = .ok (.newarray .int, 2) := by decide +kernel
theorem dX1_init_18 : decode cX1_init 18 = .ok (.putfield 17, 3) := by decide +kernel
theorem dX1_init_21 : decode cX1_init 21 = .ok (.return_, 1) := by decide +kernel
theorem dX2_init_0 : decode cX2_init 0 = .ok (.aload_n 0, 1) := by decide +kernel
theorem dX2_init_1 : decode cX2_init 1 = .ok (.invokespecial 5, 3) := by decide +kernel
theorem dX2_init_4 : decode cX2_init 4 = .ok (.aload_n 0, 1) := by decide +kernel
theorem dX2_init_5 : decode cX2_init 5 = .ok (.sipush 240, 3) := by decide +kernel
theorem dX2_init_8 : decode cX2_init 8 = .ok (.newarray .int, 2) := by decide +kernel
theorem dX2_init_10 : decode cX2_init 10 = .ok (.putfield 11, 3) := by decide +kernel
theorem dX2_init_13 : decode cX2_init 13 = .ok (.aload_n 0, 1) := by decide +kernel
theorem dX2_init_14 : decode cX2_init 14 = .ok (.sipush 241, 3) := by decide +kernel
theorem dX2_init_17 : decode cX2_init 17 = .ok (.newarray .int, 2) := by decide +kernel
theorem dX2_init_19 : decode cX2_init 19 = .ok (.putfield 15, 3) := by decide +kernel
theorem dX2_init_22 : decode cX2_init 22 = .ok (.aload_n 0, 1) := by decide +kernel
theorem dX2_init_23 : decode cX2_init 23 = .ok (.sipush 480, 3) := by decide +kernel
theorem dX2_init_26 : decode cX2_init 26 = .ok (.newarray .int, 2) := by decide +kernel
theorem dX2_init_28 : decode cX2_init 28 = .ok (.putfield 18, 3) := by decide +kernel
theorem dX2_init_31 : decode cX2_init 31 = .ok (.aload_n 0, 1) := by decide +kernel
theorem dX2_init_32 : decode cX2_init 32 = .ok (.sipush 480, 3) := by decide +kernel
theorem dX2_init_35 : decode cX2_init 35 = .ok (.newarray .int, 2) := by decide +kernel
theorem dX2_init_37 : decode cX2_init 37 = .ok (.putfield 21, 3) := by decide +kernel
theorem dX2_init_40 : decode cX2_init 40 = .ok (.aload_n 0, 1) := by decide +kernel
theorem dX2_init_41 : decode cX2_init 41 = .ok (.sipush 480, 3) := by decide +kernel
theorem dX2_init_44 : decode cX2_init 44 = .ok (.newarray .int, 2) := by decide +kernel
theorem dX2_init_46 : decode cX2_init 46 = .ok (.putfield 24, 3) := by decide +kernel
theorem dX2_init_49 : decode cX2_init 49 = .ok (.aload_n 0, 1) := by decide +kernel
theorem dX2_init_50 : decode cX2_init 50 = .ok (.sipush 480, 3) := by decide +kernel
theorem dX2_init_53 : decode cX2_init 53 = .ok (.newarray .int, 2) := by decide +kernel
theorem dX2_init_55 : decode cX2_init 55 = .ok (.putfield 27, 3) := by decide +kernel
theorem dX2_init_58 : decode cX2_init 58 = .ok (.aload_n 0, 1) := by decide +kernel
theorem dX2_init_59 : decode cX2_init 59 = .ok (.sipush 480, 3) := by decide +kernel
theorem dX2_init_62 : decode cX2_init 62 = .ok (.newarray .int, 2) := by decide +kernel
theorem dX2_init_64 : decode cX2_init 64 = .ok (.putfield 30, 3) := by decide +kernel
theorem dX2_init_67 : decode cX2_init 67 = .ok (.aload_n 0, 1) := by decide +kernel
theorem dX2_init_68 : decode cX2_init 68 = .ok (.sipush 480, 3) := by decide +kernel
theorem dX2_init_71 : decode cX2_init 71 = .ok (.newarray .int, 2) := by decide +kernel
theorem dX2_init_73 : decode cX2_init 73 = .ok (.putfield 33, 3) := by decide +kernel
theorem dX2_init_76 : decode cX2_init 76 = .ok (.aload_n 0, 1) := by decide +kernel
theorem dX2_init_77 : decode cX2_init 77 = .ok (.sipush 480, 3) := by decide +kernel
theorem dX2_init_80 : decode cX2_init 80 = .ok (.newarray .int, 2) := by decide +kernel
theorem dX2_init_82 : decode cX2_init 82 = .ok (.putfield 36, 3) := by decide +kernel
theorem dX2_init_85 : decode cX2_init 85 = .ok (.return_, 1) := by decide +kernel
theorem dX3_init_0 : decode cX3_init 0 = .ok (.aload_n 0, 1) := by decide +kernel
theorem dX3_init_1 : decode cX3_init 1 = .ok (.invokespecial 3, 3) := by decide +kernel
theorem dX3_init_4 : decode cX3_init 4 = .ok (.aload_n 0, 1) := by decide +kernel
theorem dX3_init_5 : decode cX3_init 5 = .ok (.iload_n 1, 1) := by decide +kernel
theorem dX3_init_6 : decode cX3_init 6 = .ok (.putfield 9, 3) := by decide +kernel
theorem dX3_init_9 : decode cX3_init 9 = .ok (.aload_n 0, 1) := by decide +kernel
theorem dX3_init_10 : decode cX3_init 10 = .ok (.iload_n 2, 1) := by decide +kernel
theorem dX3_init_11 : decode cX3_init 11 = .ok (.putfield 15, 3) := by decide +kernel
theorem dX3_init_14 : decode cX3_init 14 = .ok (.aload_n 0, 1) := by decide +kernel
theorem dX3_init_15 : decode cX3_init 15 = .ok (.iload_n 3, 1) := by decide +kernel
theorem dX3_init_16 : decode cX3_init 16 = .ok (.putfield 18, 3) := by decide +kernel
theorem dX3_init_19 : decode cX3_init 19 = .ok (.aload_n 0, 1) := by decide +kernel
theorem dX3_init_20 : decode cX3_init 20 = .ok (.iload 4, 2) := by decide +kernel
theorem dX3_init_22 : decode cX3_init 22 = .ok (.putfield 21, 3) := by decide +kernel
theorem dX3_init_25 : decode cX3_init 25 = .ok (.aload_n 0, 1) := by decide +kernel
theorem dX3_init_26 : decode cX3_init 26 = .ok (.iload 5, 2) := by decide +kernel
theorem dX3_init_28 : decode cX3_init 28 = .ok (.sipush 1000, 3) := by decide +kernel
theorem dX3_init_31 : decode cX3_init 31 = .ok (.idiv, 1) := by decide +kernel
theorem dX3_init_32 : decode cX3_init 32 = .ok (.putfield 24, 3) := by decide +kernel
theorem dX3_init_35 : decode cX3_init 35 = .ok (.aload_n 0, 1) := by decide +kernel
theorem dX3_init_36 : decode cX3_init 36 = .ok (.iload 5, 2) := by decide +kernel
theorem dX3_init_38 : decode cX3_init 38 = .ok (.sipush 1000, 3) := by decide +kernel
theorem dX3_init_41 : decode cX3_init 41 = .ok (.irem, 1) := by decide +kernel
theorem dX3_init_42 : decode cX3_init 42 = .ok (.putfield 27, 3) := by decide +kernel
theorem dX3_init_45 : decode cX3_init 45 = .ok (.return_, 1) := by decide +kernel
theorem dX3_canBe_0 : decode cX3_canBe 0 = .ok (.bipush 20, 2) := by decide +kernel
theorem dX3_canBe_2 : decode cX3_canBe 2 = .ok (.iload_n 0, 1) := by decide +kernel
theorem dX3_canBe_3 : decode cX3_canBe 3 = .ok (.bipush 120, 2) := by decide +kernel
theorem dX3_canBe_5 : decode cX3_canBe 5 = .ok (.invokestatic 30, 3) := by decide +kernel
theorem dX3_canBe_8 : decode cX3_canBe 8 = .ok (.ifCond .eq 70, 3) := by decide +kernel
theorem dX3_canBe_11 : decode cX3_canBe 11 = .ok (.bipush 10, 2) := by decide +kernel
theorem dX3_canBe_13 : decode cX3_canBe 13 = .ok (.iload_n 1, 1) := by decide +kernel
theorem dX3_canBe_14 : decode cX3_canBe 14 = .ok (.bipush 120, 2) := by decide +kernel
theorem dX3_canBe_16 : decode cX3_canBe 16 = .ok (.invokestatic 30, 3) := by decide +kernel
theorem dX3_canBe_19 : decode cX3_canBe 19 = .ok (.ifCond .eq 59, 3) := by decide +kernel
theorem dX3_canBe_22 : decode cX3_canBe 22 = .ok (.iconst 0, 1) := by decide +kernel
theorem dX3_canBe_23 : decode cX3_canBe 23 = .ok (.iload_n 2, 1) := by decide +kernel
theorem dX3_canBe_24 : decode cX3_canBe 24 = .ok (.iconst 2, 1) := by decide +kernel
theorem dX3_canBe_25 : decode cX3_canBe 25 = .ok (.invokestatic 30, 3) := by decide +kernel
theorem dX3_canBe_28 : decode cX3_canBe 28 = .ok (.ifCond .eq 50, 3) := by decide +kernel
theorem dX3_canBe_31 : decode cX3_canBe 31 = .ok (.sipush 300, 3) := by decide +kernel
theorem dX3_canBe_34 : decode cX3_canBe 34 = .ok (.iload_n 3, 1) := by decide +kernel
theorem dX3_canBe_35 : decode cX3_canBe 35 = .ok (.sipush 2000, 3) := by decide +kernel
theorem dX3_canBe_38 : decode cX3_canBe 38 = .ok (.invokestatic 30, 3) := by decide +kernel
theorem dX3_canBe_41 : decode cX3_canBe 41 = .ok (.ifCond .eq 37, 3) := by decide +kernel
theorem dX3_canBe_44 : decode cX3_canBe 44 = .ok (.iconst 0, 1) := by decide +kernel
theorem dX3_canBe_45 : decode cX3_canBe 45 = .ok (.iload 4, 2) := by decide +kernel
theorem dX3_canBe_47 : decode cX3_canBe 47 = .ok (.sipush 1000, 3) := by decide +kernel
theorem dX3_canBe_50 : decode cX3_canBe 50 = .ok (.idiv, 1) := by decide +kernel
theorem dX3_canBe_51 : decode cX3_canBe 51 = .ok (.iload_n 1, 1) := by decide +kernel
theorem dX3_canBe_52 : decode cX3_canBe 52 = .ok (.iconst 1, 1) := by decide +kernel
theorem dX3_canBe_53 : decode cX3_canBe 53 = .ok (.isub, 1) := by decide +kernel
theorem dX3_canBe_54 : decode cX3_canBe 54 = .ok (.invokestatic 30, 3) := by decide +kernel
theorem dX3_canBe_57 : decode cX3_canBe 57 = .ok (.ifCond .eq 21, 3) := by decide +kernel
theorem dX3_canBe_60 : decode cX3_canBe 60 = .ok (.iconst 1, 1) := by decide +kernel
theorem dX3_canBe_61 : decode cX3_canBe 61 = .ok (.iload 4, 2) := by decide +kernel
theorem dX3_canBe_63 : decode cX3_canBe 63 = .ok (.sipush 1000, 3) := by decide +kernel
theorem dX3_canBe_66 : decode cX3_canBe 66 = .ok (.irem, 1) := by decide +kernel
theorem dX3_canBe_67 : decode cX3_canBe 67 = .ok (.iload_n 1, 1) := by decide +kernel
theorem dX3_canBe_68 : decode cX3_canBe 68 = .ok (.invokestatic 30, 3) := by decide +kernel
theorem dX3_canBe_71 : decode cX3_canBe 71 = .ok (.ifCond .eq 7, 3) := by decide +kernel
theorem dX3_canBe_74 : decode cX3_canBe 74 = .ok (.iconst 1, 1) := by decide +kernel
theorem dX3_canBe_75 : decode cX3_canBe 75 = .ok (.goto 4, 3) := by decide +kernel
theorem dX3_canBe_78 : decode cX3_canBe 78 = .ok (.iconst 0, 1) := by decide +kernel
theorem dX3_canBe_79 : decode cX3_canBe 79 = .ok (.ireturn, 1) := by decide +kernel
theorem dX4_init_0 : decode cX4_init 0 = .ok (.aload_n 0, 1) := by decide +kernel
theorem dX4_init_1 : decode cX4_init 1 = .ok (.invokespecial 3, 3) := by decide +kernel
theorem dX4_init_4 : decode cX4_init 4 = .ok (.aload_n 0, 1) := by decide +kernel
theorem dX4_init_5 : decode cX4_init 5 = .ok (.aload_n 1, 1) := by decide +kernel
theorem dX4_init_6 : decode cX4_init 6 = .ok (.putfield 9, 3) := by decide +kernel
theorem dX4_init_9 : decode cX4_init 9 = .ok (.return_, 1) := by decide +kernel
theorem dX4_read_0 : decode cX4_read 0 = .ok (.aload_n 0, 1) := by decide +kernel
theorem dX4_read_1 : decode cX4_read 1 = .ok (.getfield 9, 3) := by decide +kernel
theorem dX4_read_4 : decode cX4_read 4 = .ok (.invokevirtual 15, 3) := by decide +kernel
theorem dX4_read_7 : decode cX4_read 7 = .ok (.aload_n 0, 1) := by decide +kernel
theorem dX4_read_8 : decode cX4_read 8 = .ok (.iconst 0, 1) := by decide +kernel
theorem dX4_read_9 : decode cX4_read 9 = .ok (.putfield 20, 3) := by decide +kernel
theorem dX4_read_12 : decode cX4_read 12 = .ok (.aload_n 0, 1) := by decide +kernel
theorem dX4_read_13 : decode cX4_read 13 = .ok (.aload_n 1, 1) := by decide +kernel
theorem dX4_read_14 : decode cX4_read 14 = .ok (.putfield 24, 3) := by decide +kernel
theorem dX4_read_17 : decode cX4_read 17 = .ok (.aload_n 0, 1) := by decide +kernel
theorem dX4_read_18 : decode cX4_read 18 = .ok (.getfield 24, 3) := by decide +kernel
theorem dX4_read_21 : decode cX4_read 21 = .ok (.invokevirtual 28, 3) := by decide +kernel
theorem dX4_read_24 : decode cX4_read 24 = .ok (.iconst 0, 1) := by decide +kernel
theorem dX4_read_25 : decode cX4_read 25 = .ok (.istore_n 2, 1) := by decide +kernel
theorem dX4_read_26 : decode cX4_read 26 = .ok (.iload_n 2, 1) := by decide +kernel
theorem dX4_read_27 : decode cX4_read 27 = .ok (.sipush 400, 3) := by decide +kernel
theorem dX4_read_30 : decode cX4_read 30 = .ok (.if_icmp .ge 30, 3) := by decide +kernel
theorem dX4_read_33 : decode cX4_read 33 = .ok (.aload_n 0, 1) := by decide +kernel
theorem dX4_read_34 : decode cX4_read 34 = .ok (.bipush 10, 2) := by decide +kernel
theorem dX4_read_36 : decode cX4_read 36 = .ok (.invokevirtual 33, 3) := by decide +kernel
theorem dX4_read_39 : decode cX4_read 39 = .ok (.ifCond .ne 21, 3) := by decide +kernel
theorem dX4_read_60 : decode cX4_read 60 = .ok (.aload_n 0, 1) := by decide +kernel
theorem dX4_read_61 : decode cX4_read 61 = .ok (.getfield 24, 3) := by decide +kernel
theorem dX4_read_64 : decode cX4_read 64 = .ok (.getfield 45, 3) := by decide +kernel
theorem dX4_read_67 : decode cX4_read 67 = .ok (.getfield 49, 3) := by decide +kernel
theorem dX4_read_70 : decode cX4_read 70 = .ok (.ifCond .ne 13, 3) := by decide +kernel
theorem dX4_read_73 : decode cX4_read 73 = .ok (.aload_n 0, 1) := by decide +kernel
theorem dX4_read_74 : decode cX4_read 74 = .ok (.getfield 9, 3) := by decide +kernel
theorem dX4_read_77 : decode cX4_read 77 = .ok (.getfield 54, 3) := by decide +kernel
theorem dX4_read_80 : decode cX4_read 80 = .ok (.goto 4, 3) := by decide +kernel
theorem dX4_read_84 : decode cX4_read 84 = .ok (.ireturn, 1) := by decide +kernel
theorem dX4_isNext_0 : decode cX4_isNext 0 = .ok (.aload_n 0, 1) := by decide +kernel
theorem dX4_isNext_1 : decode cX4_isNext 1 = .ok (.getfield 20, 3) := by decide +kernel
theorem dX4_isNext_4 : decode cX4_isNext 4 = .ok (.aload_n 0, 1) := by decide +kernel
theorem dX4_isNext_5 : decode cX4_isNext 5 = .ok (.getfield 9, 3) := by decide +kernel
theorem dX4_isNext_8 : decode cX4_isNext 8 = .ok (.getfield 57, 3) := by decide +kernel
theorem dX4_isNext_11 : decode cX4_isNext 11 = .ok (.if_icmp .ge 23, 3) := by decide +kernel
theorem dX4_isNext_14 : decode cX4_isNext 14 = .ok (.aload_n 0, 1) := by decide +kernel
theorem dX4_isNext_15 : decode cX4_isNext 15 = .ok (.getfield 9, 3) := by decide +kernel
theorem dX4_isNext_18 : decode cX4_isNext 18 = .ok (.getfield 60, 3) := by decide +kernel
theorem dX4_isNext_21 : decode cX4_isNext 21 = .ok (.aload_n 0, 1) := by decide +kernel
theorem dX4_isNext_22 : decode cX4_isNext 22 = .ok (.getfield 20, 3) := by decide +kernel
theorem dX4_isNext_25 : decode cX4_isNext 25 = .ok (.iaload, 1) := by decide +kernel
theorem dX4_isNext_26 : decode cX4_isNext 26 = .ok (.iload_n 1, 1) := by decide +kernel
theorem dX4_isNext_27 : decode cX4_isNext 27 = .ok (.if_icmp .ne 7, 3) := by decide +kernel
theorem dX4_isNext_30 : decode cX4_isNext 30 = .ok (.iconst 1, 1) := by decide +kernel
theorem dX4_isNext_31 : decode cX4_isNext 31 = .ok (.goto 4, 3) := by decide +kernel
theorem dX4_isNext_35 : decode cX4_isNext 35 = .ok (.ireturn, 1) := by decide +kernel
theorem dX5_init_0 : decode cX5_init 0 = .ok (.aload_n 0, 1) := by decide +kernel
theorem dX5_init_1 : decode cX5_init 1 = .ok (.invokespecial 5, 3) := by decide +kernel
theorem dX5_init_4 : decode cX5_init 4 = .ok (.aload_n 0, 1) := by decide +kernel
theorem dX5_init_5 : decode cX5_init 5 = .ok (.sipush 2880, 3) := by decide +kernel
theorem dX5_init_8 : decode cX5_init 8 = .ok (.newarray .int, 2) := by decide +kernel
theorem dX5_init_10 : decode cX5_init 10 = .ok (.putfield 13, 3) := by decide +kernel
theorem dX5_init_13 : decode cX5_init 13 = .ok (.aload_n 0, 1) := by decide +kernel
theorem dX5_init_14 : decode cX5_init 14 = .ok (.sipush 4096, 3) := by decide +kernel
theorem dX5_init_17 : decode cX5_init 17 = .ok (.newarray .int, 2) := by decide +kernel
theorem dX5_init_19 : decode cX5_init 19 = .ok (.putfield 17, 3) := by decide +kernel
theorem dX5_init_22 : decode cX5_init 22 = .ok (.aload_n 0, 1) := by decide +kernel
theorem dX5_init_23 : decode cX5_init 23 = .ok (.bipush 12, 2) := by decide +kernel
theorem dX5_init_25 : decode cX5_init 25 = .ok (.newarray .int, 2) := by decide +kernel
theorem dX5_init_27 : decode cX5_init 27 = .ok (.putfield 20, 3) := by decide +kernel
theorem dX5_init_30 : decode cX5_init 30 = .ok (.aload_n 0, 1) := by decide +kernel
theorem dX5_init_31 : decode cX5_init 31 = .ok (.bipush 12, 2) := by decide +kernel
theorem dX5_init_33 : decode cX5_init 33 = .ok (.newarray .int, 2) := by decide +kernel
theorem dX5_init_35 : decode cX5_init 35 = .ok (.putfield 23, 3) := by decide +kernel
theorem dX5_init_38 : decode cX5_init 38 = .ok (.return_, 1) := by decide +kernel
theorem dX6_init_0 : decode cX6_init 0 = .ok (.aload_n 0, 1) := by decide +kernel
theorem dX6_init_1 : decode cX6_init 1 = .ok (.invokespecial 3, 3) := by decide +kernel
theorem dX6_init_4 : decode cX6_init 4 = .ok (.aload_n 0, 1) := by decide +kernel
theorem dX6_init_5 : decode cX6_init 5 = .ok (.new 9, 3) := by decide +kernel
theorem dX6_init_8 : decode cX6_init 8 = .ok (.dup, 1) := by decide +kernel
theorem dX6_init_9 : decode cX6_init 9 = .ok (.invokespecial 11, 3) := by decide +kernel
theorem dX6_init_12 : decode cX6_init 12 = .ok (.putfield 12, 3) := by decide +kernel
theorem dX6_init_15 : decode cX6_init 15 = .ok (.aload_n 0, 1) := by decide +kernel
theorem dX6_init_16 : decode cX6_init 16 = .ok (.bipush 8, 2) := by decide +kernel
theorem dX6_init_18 : decode cX6_init 18 = .ok (.newarray .boolean, 2) := by decide +kernel
theorem dX6_init_20 : decode cX6_init 20 = .ok (.putfield 18, 3) := by decide +kernel
theorem dX6_init_23 : decode cX6_init 23 = .ok (.aload_n 0, 1) := by decide +kernel
theorem dX6_init_24 : decode cX6_init 24 = .ok (.bipush 8, 2) := by decide +kernel
theorem dX6_init_26 : decode cX6_init 26 = .ok (.newarray .int, 2) := by decide +kernel
theorem dX6_init_28 : decode cX6_init 28 = .ok (.putfield 22, 3) := by decide +kernel
theorem dX6_init_31 : decode cX6_init 31 = .ok (.aload_n 0, 1) := by decide +kernel
theorem dX6_init_32 : decode cX6_init 32 = .ok (.bipush 8, 2) := by decide +kernel
theorem dX6_init_34 : decode cX6_init 34 = .ok (.newarray .int, 2) := by decide +kernel
theorem dX6_init_36 : decode cX6_init 36 = .ok (.putfield 26, 3) := by decide +kernel
theorem dX6_init_39 : decode cX6_init 39 = .ok (.aload_n 0, 1) := by decide +kernel
theorem dX6_init_40 : decode cX6_init 40 = .ok (.bipush 8, 2) := by decide +kernel
theorem dX6_init_42 : decode cX6_init 42 = .ok (.newarray .int, 2) := by decide +kernel
theorem dX6_init_44 : decode cX6_init 44 = .ok (.putfield 29, 3) := by decide +kernel
theorem dX6_init_47 : decode cX6_init 47 = .ok (.aload_n 0, 1) := by decide +kernel
theorem dX6_init_48 : decode cX6_init 48 = .ok (.bipush 8, 2) := by decide +kernel
theorem dX6_init_50 : decode cX6_init 50 = .ok (.newarray .int, 2) := by decide +kernel
theorem dX6_init_52 : decode cX6_init 52 = .ok (.putfield 32, 3) := by decide +kernel
theorem dX6_init_55 : decode cX6_init 55 = .ok (.aload_n 0, 1) := by decide +kernel
theorem dX6_init_56 : decode cX6_init 56 = .ok (.bipush 8, 2) := by decide +kernel
theorem dX6_init_58 : decode cX6_init 58 = .ok (.newarray .int, 2) := by decide +kernel
theorem dX6_init_60 : decode cX6_init 60 = .ok (.putfield 35, 3) := by decide +kernel
theorem dX6_init_63 : decode cX6_init 63 = .ok (.aload_n 0, 1) := by decide +kernel
theorem dX6_init_64 : decode cX6_init 64 = .ok (.iconst 4, 1) := by decide +kernel
theorem dX6_init_65 : decode cX6_init 65 = .ok (.newarray .int, 2) := by decide +kernel
theorem dX6_init_67 : decode cX6_init 67 = .ok (.putfield 38, 3) := by decide +kernel
theorem dX6_init_70 : decode cX6_init 70 = .ok (.aload_n 0, 1) := by decide +kernel
theorem dX6_init_71 : decode cX6_init 71 = .ok (.iconst 4, 1) := by decide +kernel
theorem dX6_init_72 : decode cX6_init 72 = .ok (.newarray .int, 2) := by decide +kernel
theorem dX6_init_74 : decode cX6_init 74 = .ok (.putfield 41, 3) := by decide +kernel
theorem dX6_init_77 : decode cX6_init 77 = .ok (.aload_n 0, 1) := by decide +kernel
theorem dX6_init_78 : decode cX6_init 78 = .ok (.iconst 4, 1) := by decide +kernel
theorem dX6_init_79 : decode cX6_init 79 = .ok (.newarray .int, 2) := by decide +kernel
theorem dX6_init_81 : decode cX6_init 81 = .ok (.putfield 44, 3) := by decide +kernel
theorem dX6_init_84 : decode cX6_init 84 = .ok (.return_, 1) := by decide +kernel
theorem dX6_clear_0 : decode cX6_clear 0 = .ok (.aload_n 0, 1) := by decide +kernel
theorem dX6_clear_1 : decode cX6_clear 1 = .ok (.getfield 12, 3) := by decide +kernel
theorem dX6_clear_4 : decode cX6_clear 4 = .ok (.invokevirtual 47, 3) := by decide +kernel
theorem dX6_clear_7 : decode cX6_clear 7 = .ok (.aload_n 0, 1) := by decide +kernel
theorem dX6_clear_8 : decode cX6_clear 8 = .ok (.iconst 0, 1) := by decide +kernel
theorem dX6_clear_9 : decode cX6_clear 9 = .ok (.putfield 50, 3) := by decide +kernel
theorem dX6_clear_12 : decode cX6_clear 12 = .ok (.aload_n 0, 1) := by decide +kernel
theorem dX6_clear_13 : decode cX6_clear 13 = .ok (.iconst 0, 1) := by decide +kernel
theorem dX6_clear_14 : decode cX6_clear 14 = .ok (.putfield 54, 3) := by decide +kernel
theorem dX6_clear_17 : decode cX6_clear 17 = .ok (.return_, 1) := by decide +kernel
theorem dX7_init_0 : decode cX7_init 0 = .ok (.aload_n 0, 1) := by decide +kernel
theorem dX7_init_1 : decode cX7_init 1 = .ok (.invokespecial 3, 3) := by decide +kernel
theorem dX7_init_4 : decode cX7_init 4 = .ok (.aload_n 0, 1) := by decide +kernel
theorem dX7_init_5 : decode cX7_init 5 = .ok (.iconst 4, 1) := by decide +kernel
theorem dX7_init_6 : decode cX7_init 6 = .ok (.newarray .int, 2) := by decide +kernel
theorem dX7_init_8 : decode cX7_init 8 = .ok (.putfield 11, 3) := by decide +kernel
theorem dX7_init_11 : decode cX7_init 11 = .ok (.aload_n 0, 1) := by decide +kernel
theorem dX7_init_12 : decode cX7_init 12 = .ok (.iconst 4, 1) := by decide +kernel
theorem dX7_init_13 : decode cX7_init 13 = .ok (.newarray .int, 2) := by decide +kernel
theorem dX7_init_15 : decode cX7_init 15 = .ok (.putfield 15, 3) := by decide +kernel
theorem dX7_init_18 : decode cX7_init 18 = .ok (.aload_n 0, 1) := by decide +kernel
theorem dX7_init_19 : decode cX7_init 19 = .ok (.bipush 8, 2) := by decide +kernel
theorem dX7_init_21 : decode cX7_init 21 = .ok (.newarray .int, 2) := by decide +kernel
theorem dX7_init_23 : decode cX7_init 23 = .ok (.putfield 20, 3) := by decide +kernel
theorem dX7_init_26 : decode cX7_init 26 = .ok (.aload_n 0, 1) := by decide +kernel
theorem dX7_init_27 : decode cX7_init 27 = .ok (.bipush 8, 2) := by decide +kernel
theorem dX7_init_29 : decode cX7_init 29 = .ok (.newarray .boolean, 2) := by decide +kernel
theorem dX7_init_31 : decode cX7_init 31 = .ok (.putfield 23, 3) := by decide +kernel
theorem dX7_init_34 : decode cX7_init 34 = .ok (.aload_n 0, 1) := by decide +kernel
theorem dX7_init_35 : decode cX7_init 35 = .ok (.iconst 4, 1) := by decide +kernel
theorem dX7_init_36 : decode cX7_init 36 = .ok (.newarray .int, 2) := by decide +kernel
theorem dX7_init_38 : decode cX7_init 38 = .ok (.putfield 27, 3) := by decide +kernel
theorem dX7_init_41 : decode cX7_init 41 = .ok (.aload_n 0, 1) := by decide +kernel
theorem dX7_init_42 : decode cX7_init 42 = .ok (.bipush 8, 2) := by decide +kernel
theorem dX7_init_44 : decode cX7_init 44 = .ok (.newarray .int, 2) := by decide +kernel
theorem dX7_init_46 : decode cX7_init 46 = .ok (.putfield 30, 3) := by decide +kernel
theorem dX7_init_49 : decode cX7_init 49 = .ok (.aload_n 0, 1) := by decide +kernel
theorem dX7_init_50 : decode cX7_init 50 = .ok (.bipush 8, 2) := by decide +kernel
theorem dX7_init_52 : decode cX7_init 52 = .ok (.newarray .int, 2) := by decide +kernel
theorem dX7_init_54 : decode cX7_init 54 = .ok (.putfield 33, 3) := by decide +kernel
theorem dX7_init_57 : decode cX7_init 57 = .ok (.return_, 1) := by decide +kernel
theorem dX8_init_0 : decode cX8_init 0 = .ok (.aload_n 0, 1) := by decide +kernel
theorem dX8_init_1 : decode cX8_init 1 = .ok (.invokespecial 3, 3) := by decide +kernel
theorem dX8_init_4 : decode cX8_init 4 = .ok (.aload_n 0, 1) := by decide +kernel
theorem dX8_init_5 : decode cX8_init 5 = .ok (.bipush 6, 2) := by decide +kernel
theorem dX8_init_7 : decode cX8_init 7 = .ok (.newarray .int, 2) := by decide +kernel
theorem dX8_init_9 : decode cX8_init 9 = .ok (.putfield 9, 3) := by decide +kernel
theorem dX8_init_12 : decode cX8_init 12 = .ok (.aload_n 0, 1) := by decide +kernel
theorem dX8_init_13 : decode cX8_init 13 = .ok (.bipush 6, 2) := by decide +kernel
theorem dX8_init_15 : decode cX8_init 15 = .ok (.newarray .int, 2) := by decide +kernel
theorem dX8_init_17 : decode cX8_init 17 = .ok (.putfield 15, 3) := by decide +kernel
theorem dX8_init_20 : decode cX8_init 20 = .ok (.aload_n 0, 1) := by decide +kernel
theorem dX8_init_21 : decode cX8_init 21 = .ok (.bipush 6, 2) := by decide +kernel
theorem dX8_init_23 : decode cX8_init 23 = .ok (.newarray .int, 2) := by decide +kernel
theorem dX8_init_25 : decode cX8_init 25 = .ok (.putfield 18, 3) := by decide +kernel
theorem dX8_init_28 : decode cX8_init 28 = .ok (.aload_n 0, 1) := by decide +kernel
theorem dX8_init_29 : decode cX8_init 29 = .ok (.bipush 6, 2) := by decide +kernel
theorem dX8_init_31 : decode cX8_init 31 = .ok (.newarray .int, 2) := by decide +kernel
theorem dX8_init_33 : decode cX8_init 33 = .ok (.putfield 21, 3) := by decide +kernel
theorem dX8_init_36 : decode cX8_init 36 = .ok (.aload_n 0, 1) := by decide +kernel
theorem dX8_init_37 : decode cX8_init 37 = .ok (.bipush 10, 2) := by decide +kernel
theorem dX8_init_39 : decode cX8_init 39 = .ok (.newarray .int, 2) := by decide +kernel
theorem dX8_init_41 : decode cX8_init 41 = .ok (.putfield 24, 3) := by decide +kernel
theorem dX8_init_44 : decode cX8_init 44 = .ok (.aload_n 0, 1) := by decide +kernel
theorem dX8_init_45 : decode cX8_init 45 = .ok (.bipush 10, 2) := by decide +kernel
theorem dX8_init_47 : decode cX8_init 47 = .ok (.newarray .int, 2) := by decide +kernel
theorem dX8_init_49 : decode cX8_init 49 = .ok (.putfield 27, 3) := by decide +kernel
theorem dX8_init_52 : decode cX8_init 52 = .ok (.aload_n 0, 1) := by decide +kernel
theorem dX8_init_53 : decode cX8_init 53 = .ok (.bipush 10, 2) := by decide +kernel
theorem dX8_init_55 : decode cX8_init 55 = .ok (.newarray .int, 2) := by decide +kernel
theorem dX8_init_57 : decode cX8_init 57 = .ok (.putfield 30, 3) := by decide +kernel
theorem dX8_init_60 : decode cX8_init 60 = .ok (.iconst 0, 1) := by decide +kernel
theorem dX8_init_61 : decode cX8_init 61 = .ok (.istore_n 1, 1) := by decide +kernel
theorem dX8_init_62 : decode cX8_init 62 = .ok (.iload_n 1, 1) := by decide +kernel
theorem dX8_init_63 : decode cX8_init 63 = .ok (.bipush 6, 2) := by decide +kernel
theorem dX8_init_65 : decode cX8_init 65 = .ok (.if_icmp .ge 16, 3) := by decide +kernel
theorem dX8_init_68 : decode cX8_init 68 = .ok (.aload_n 0, 1) := by decide +kernel
theorem dX8_init_69 : decode cX8_init 69 = .ok (.getfield 9, 3) := by decide +kernel
theorem dX8_init_72 : decode cX8_init 72 = .ok (.iload_n 1, 1) := by decide +kernel
theorem dX8_init_73 : decode cX8_init 73 = .ok (.iconst (-1), 1) := by decide +kernel
theorem dX8_init_74 : decode cX8_init 74 = .ok (.iastore, 1) := by decide +kernel
theorem dX8_init_75 : decode cX8_init 75 = .ok (.iinc 1 1, 3) := by decide +kernel
theorem dX8_init_78 : decode cX8_init 78 = .ok (.goto (-16), 3) := by decide +kernel
theorem dX8_init_81 : decode cX8_init 81 = .ok (.return_, 1) := by decide +kernel
theorem dX8_copyFrom_0 : decode cX8_copyFrom 0 = .ok (.aload_n 1, 1) := by decide +kernel
theorem dX8_copyFrom_1 : decode cX8_copyFrom 1 = .ok (.ifnonnull 4, 3) := by decide +kernel
theorem dX8_copyFrom_5 : decode cX8_copyFrom 5 = .ok (.iconst 0, 1) := by decide +kernel
theorem dX8_copyFrom_6 : decode cX8_copyFrom 6 = .ok (.istore_n 2, 1) := by decide +kernel
theorem dX8_copyFrom_7 : decode cX8_copyFrom 7 = .ok (.iload_n 2, 1) := by decide +kernel
theorem dX8_copyFrom_8 : decode cX8_copyFrom 8 = .ok (.bipush 6, 2) := by decide +kernel
theorem dX8_copyFrom_10 : decode cX8_copyFrom 10 = .ok (.if_icmp .ge 57, 3) := by decide +kernel
theorem dX8_copyFrom_13 : decode cX8_copyFrom 13 = .ok (.aload_n 0, 1) := by decide +kernel
theorem dX8_copyFrom_14 : decode cX8_copyFrom 14 = .ok (.getfield 9, 3) := by decide +kernel
theorem dX8_copyFrom_17 : decode cX8_copyFrom 17 = .ok (.iload_n 2, 1) := by decide +kernel
theorem dX8_copyFrom_18 : decode cX8_copyFrom 18 = .ok (.aload_n 1, 1) := by decide +kernel
theorem dX8_copyFrom_19 : decode cX8_copyFrom 19 = .ok (.getfield 9, 3) := by decide +kernel
theorem dX8_copyFrom_22 : decode cX8_copyFrom 22 = .ok (.iload_n 2, 1) := by decide +kernel
theorem dX8_copyFrom_23 : decode cX8_copyFrom 23 = .ok (.iaload, 1) := by decide +kernel
theorem dX8_copyFrom_24 : decode cX8_copyFrom 24 = .ok (.iastore, 1) := by decide +kernel
theorem dX8_copyFrom_25 : decode cX8_copyFrom 25 = .ok (.aload_n 0, 1) := by decide +kernel
theorem dX8_copyFrom_26 : decode cX8_copyFrom 26 = .ok (.getfield 15, 3) := by decide +kernel
theorem dX8_copyFrom_29 : decode cX8_copyFrom 29 = .ok (.iload_n 2, 1) := by decide +kernel
theorem dX8_copyFrom_30 : decode cX8_copyFrom 30 = .ok (.aload_n 1, 1) := by decide +kernel
theorem dX8_copyFrom_31 : decode cX8_copyFrom 31 = .ok (.getfield 15, 3) := by decide +kernel
theorem dX8_copyFrom_34 : decode cX8_copyFrom 34 = .ok (.iload_n 2, 1) := by decide +kernel
theorem dX8_copyFrom_35 : decode cX8_copyFrom 35 = .ok (.iaload, 1) := by decide +kernel
theorem dX8_copyFrom_36 : decode cX8_copyFrom 36 = .ok (.iastore, 1) := by decide +kernel
theorem dX8_copyFrom_37 : decode cX8_copyFrom 37 = .ok (.aload_n 0, 1) := by decide +kernel
theorem dX8_copyFrom_38 : decode cX8_copyFrom 38 = .ok (.getfield 18, 3) := by decide +kernel
theorem dX8_copyFrom_41 : decode cX8_copyFrom 41 = .ok (.iload_n 2, 1) := by decide +kernel
theorem dX8_copyFrom_42 : decode cX8_copyFrom 42 = .ok (.aload_n 1, 1) := by decide +kernel
theorem dX8_copyFrom_43 : decode cX8_copyFrom 43 = .ok (.getfield 18, 3) := by decide +kernel
theorem dX8_copyFrom_46 : decode cX8_copyFrom 46 = .ok (.iload_n 2, 1) := by decide +kernel
theorem dX8_copyFrom_47 : decode cX8_copyFrom 47 = .ok (.iaload, 1) := by decide +kernel
theorem dX8_copyFrom_48 : decode cX8_copyFrom 48 = .ok (.iastore, 1) := by decide +kernel
theorem dX8_copyFrom_49 : decode cX8_copyFrom 49 = .ok (.aload_n 0, 1) := by decide +kernel
theorem dX8_copyFrom_50 : decode cX8_copyFrom 50 = .ok (.getfield 21, 3) := by decide +kernel
theorem dX8_copyFrom_53 : decode cX8_copyFrom 53 = .ok (.iload_n 2, 1) := by decide +kernel
theorem dX8_copyFrom_54 : decode cX8_copyFrom 54 = .ok (.aload_n 1, 1) := by decide +kernel
theorem dX8_copyFrom_55 : decode cX8_copyFrom 55 = .ok (.getfield 21, 3) := by decide +kernel
theorem dX8_copyFrom_58 : decode cX8_copyFrom 58 = .ok (.iload_n 2, 1) := by decide +kernel
theorem dX8_copyFrom_59 : decode cX8_copyFrom 59 = .ok (.iaload, 1) := by decide +kernel
theorem dX8_copyFrom_60 : decode cX8_copyFrom 60 = .ok (.iastore, 1) := by decide +kernel
theorem dX8_copyFrom_61 : decode cX8_copyFrom 61 = .ok (.iinc 2 1, 3) := by decide +kernel
theorem dX8_copyFrom_64 : decode cX8_copyFrom 64 = .ok (.goto (-57), 3) := by decide +kernel
theorem dX8_copyFrom_67 : decode cX8_copyFrom 67 = .ok (.aload_n 0, 1) := by decide +kernel
theorem dX8_copyFrom_68 : decode cX8_copyFrom 68 = .ok (.aload_n 1, 1) := by decide +kernel
theorem dX8_copyFrom_69 : decode cX8_copyFrom 69 = .ok (.getfield 33, 3) := by decide +kernel
theorem dX8_copyFrom_72 : decode cX8_copyFrom 72 = .ok (.putfield 33, 3) := by decide +kernel
theorem dX8_copyFrom_75 : decode cX8_copyFrom 75 = .ok (.iconst 0, 1) := by decide +kernel
theorem dX8_copyFrom_76 : decode cX8_copyFrom 76 = .ok (.istore_n 2, 1) := by decide +kernel
theorem dX8_copyFrom_77 : decode cX8_copyFrom 77 = .ok (.iload_n 2, 1) := by decide +kernel
theorem dX8_copyFrom_78 : decode cX8_copyFrom 78 = .ok (.bipush 10, 2) := by decide +kernel
theorem dX8_copyFrom_80 : decode cX8_copyFrom 80 = .ok (.if_icmp .ge 45, 3) := by decide +kernel
theorem dX8_copyFrom_83 : decode cX8_copyFrom 83 = .ok (.aload_n 0, 1) := by decide +kernel
theorem dX8_copyFrom_84 : decode cX8_copyFrom 84 = .ok (.getfield 24, 3) := by decide +kernel
theorem dX8_copyFrom_87 : decode cX8_copyFrom 87 = .ok (.iload_n 2, 1) := by decide +kernel
theorem dX8_copyFrom_88 : decode cX8_copyFrom 88 = .ok (.aload_n 1, 1) := by decide +kernel
theorem dX8_copyFrom_89 : decode cX8_copyFrom 89 = .ok (.getfield 24, 3) := by decide +kernel
theorem dX8_copyFrom_92 : decode cX8_copyFrom 92 = .ok (.iload_n 2, 1) := by decide +kernel
theorem dX8_copyFrom_93 : decode cX8_copyFrom 93 = .ok (.iaload, 1) := by decide +kernel
theorem dX8_copyFrom_94 : decode cX8_copyFrom 94 = .ok (.iastore, 1) := by decide +kernel
theorem dX8_copyFrom_95 : decode cX8_copyFrom 95 = .ok (.aload_n 0, 1) := by decide +kernel
theorem dX8_copyFrom_96 : decode cX8_copyFrom 96 = .ok (.getfield 27, 3) := by decide +kernel
theorem dX8_copyFrom_99 : decode cX8_copyFrom 99 = .ok (.iload_n 2, 1) := by decide +kernel
theorem dX8_copyFrom_100 : decode cX8_copyFrom 100 = .ok (.aload_n 1, 1) := by decide +kernel
theorem dX8_copyFrom_101 : decode cX8_copyFrom 101 = .ok (.getfield 27, 3) := by decide +kernel
theorem dX8_copyFrom_104 : decode cX8_copyFrom 104 = .ok (.iload_n 2, 1) := by decide +kernel
theorem dX8_copyFrom_105 : decode cX8_copyFrom 105 = .ok (.iaload, 1) := by decide +kernel
theorem dX8_copyFrom_106 : decode cX8_copyFrom 106 = .ok (.iastore, 1) := by decide +kernel
theorem dX8_copyFrom_107 : decode cX8_copyFrom 107 = .ok (.aload_n 0, 1) := by decide +kernel
theorem dX8_copyFrom_108 : decode cX8_copyFrom 108 = .ok (.getfield 30, 3) := by decide +kernel
theorem dX8_copyFrom_111 : decode cX8_copyFrom 111 = .ok (.iload_n 2, 1) := by decide +kernel
theorem dX8_copyFrom_112 : decode cX8_copyFrom 112 = .ok (.aload_n 1, 1) := by decide +kernel
theorem dX8_copyFrom_113 : decode cX8_copyFrom 113 = .ok (.getfield 30, 3) := by decide +kernel
theorem dX8_copyFrom_116 : decode cX8_copyFrom 116 = .ok (.iload_n 2, 1) := by decide +kernel
theorem dX8_copyFrom_117 : decode cX8_copyFrom 117 = .ok (.iaload, 1) := by decide +kernel
theorem dX8_copyFrom_118 : decode cX8_copyFrom 118 = .ok (.iastore, 1) := by decide +kernel
theorem dX8_copyFrom_119 : decode cX8_copyFrom 119 = .ok (.iinc 2 1, 3) := by decide +kernel
theorem dX8_copyFrom_122 : decode cX8_copyFrom 122 = .ok (.goto (-45), 3) := by decide +kernel
theorem dX8_copyFrom_125 : decode cX8_copyFrom 125 = .ok (.return_, 1) := by decide +kernel
end
section
theorem dX9_init_0 : decode cX9_init 0 = .ok (.aload_n 0, 1) := by decide +kernel
theorem dX9_init_1 : decode cX9_init 1 = .ok (.invokespecial 1, 3) := by decide +kernel
theorem dX9_init_4 : decode cX9_init 4 = .ok (.aload_n 0, 1) := by decide +kernel
theorem dX9_init_5 : decode cX9_init 5 = .ok (.sipush 400, 3) := by decide +kernel
theorem dX9_init_8 : decode cX9_init 8 = .ok (.newarray .int, 2) := by decide +kernel
theorem dX9_init_10 : decode cX9_init 10 = .ok (.putfield 9, 3) := by decide +kernel
theorem dX9_init_13 : decode cX9_init 13 = .ok (.aload_n 0, 1) := by decide +kernel
theorem dX9_init_14 : decode cX9_init 14 = .ok (.sipush 401, 3) := by decide +kernel
theorem dX9_init_17 : decode cX9_init 17 = .ok (.newarray .int, 2) := by decide +kernel
theorem dX9_init_19 : decode cX9_init 19 = .ok (.putfield 13, 3) := by decide +kernel
theorem dX9_init_22 : decode cX9_init 22 = .ok (.aload_n 0, 1) := by decide +kernel
theorem dX9_init_23 : decode cX9_init 23 = .ok (.sipush 401, 3) := by decide +kernel
theorem dX9_init_26 : decode cX9_init 26 = .ok (.newarray .int, 2) := by decide +kernel
theorem dX9_init_28 : decode cX9_init 28 = .ok (.putfield 16, 3) := by decide +kernel
theorem dX9_init_31 : decode cX9_init 31 = .ok (.aload_n 0, 1) := by decide +kernel
theorem dX9_init_32 : decode cX9_init 32 = .ok (.sipush 401, 3) := by decide +kernel
theorem dX9_init_35 : decode cX9_init 35 = .ok (.newarray .int, 2) := by decide +kernel
theorem dX9_init_37 : decode cX9_init 37 = .ok (.putfield 19, 3) := by decide +kernel
theorem dX9_init_40 : decode cX9_init 40 = .ok (.return_, 1) := by decide +kernel
theorem dX9_hasSpaceFor_0 : decode cX9_hasSpaceFor 0 = .ok (.iload_n 1, 1) := by decide +kernel
theorem dX9_hasSpaceFor_1 : decode cX9_hasSpaceFor 1 = .ok (.ifCond .lt 19, 3) := by decide +kernel
theorem dX9_hasSpaceFor_4 : decode cX9_hasSpaceFor 4 = .ok (.iload_n 1, 1) := by decide +kernel
theorem dX9_hasSpaceFor_5 : decode cX9_hasSpaceFor 5 = .ok (.sipush 400, 3) := by decide +kernel
theorem dX9_hasSpaceFor_8 : decode cX9_hasSpaceFor 8 = .ok (.aload_n 0, 1) := by decide +kernel
theorem dX9_hasSpaceFor_9 : decode cX9_hasSpaceFor 9 = .ok (.getfield 22, 3) := by decide +kernel
theorem dX9_hasSpaceFor_12 : decode cX9_hasSpaceFor 12 = .ok (.isub, 1) := by decide +kernel
theorem dX9_hasSpaceFor_13 : decode cX9_hasSpaceFor 13 = .ok (.if_icmp .gt 7, 3) := by decide +kernel
theorem dX9_hasSpaceFor_16 : decode cX9_hasSpaceFor 16 = .ok (.iconst 1, 1) := by decide +kernel
theorem dX9_hasSpaceFor_17 : decode cX9_hasSpaceFor 17 = .ok (.goto 4, 3) := by decide +kernel
theorem dX9_hasSpaceFor_21 : decode cX9_hasSpaceFor 21 = .ok (.ireturn, 1) := by decide +kernel
theorem dX9_add_0 : decode cX9_add 0 = .ok (.aload_n 0, 1) := by decide +kernel
theorem dX9_add_1 : decode cX9_add 1 = .ok (.iconst 4, 1) := by decide +kernel
theorem dX9_add_2 : decode cX9_add 2 = .ok (.invokevirtual 26, 3) := by decide +kernel
theorem dX9_add_5 : decode cX9_add 5 = .ok (.ifCond .ne 4, 3) := by decide +kernel
theorem dX9_add_9 : decode cX9_add 9 = .ok (.bipush 24, 2) := by decide +kernel
theorem dX9_add_11 : decode cX9_add 11 = .ok (.istore_n 2, 1) := by decide +kernel
theorem dX9_add_12 : decode cX9_add 12 = .ok (.iload_n 2, 1) := by decide +kernel
theorem dX9_add_13 : decode cX9_add 13 = .ok (.ifCond .lt 35, 3) := by decide +kernel
theorem dX9_add_16 : decode cX9_add 16 = .ok (.aload_n 0, 1) := by decide +kernel
theorem dX9_add_17 : decode cX9_add 17 = .ok (.getfield 9, 3) := by decide +kernel
theorem dX9_add_20 : decode cX9_add 20 = .ok (.aload_n 0, 1) := by decide +kernel
theorem dX9_add_21 : decode cX9_add 21 = .ok (.getfield 22, 3) := by decide +kernel
theorem dX9_add_24 : decode cX9_add 24 = .ok (.iload_n 1, 1) := by decide +kernel
theorem dX9_add_25 : decode cX9_add 25 = .ok (.iload_n 2, 1) := by decide +kernel
theorem dX9_add_26 : decode cX9_add 26 = .ok (.iushr, 1) := by decide +kernel
theorem dX9_add_27 : decode cX9_add 27 = .ok (.sipush 255, 3) := by decide +kernel
theorem dX9_add_30 : decode cX9_add 30 = .ok (.iand, 1) := by decide +kernel
theorem dX9_add_31 : decode cX9_add 31 = .ok (.iastore, 1) := by decide +kernel
theorem dX9_add_32 : decode cX9_add 32 = .ok (.aload_n 0, 1) := by decide +kernel
theorem dX9_add_33 : decode cX9_add 33 = .ok (.dup, 1) := by decide +kernel
theorem dX9_add_34 : decode cX9_add 34 = .ok (.getfield 22, 3) := by decide +kernel
theorem dX9_add_37 : decode cX9_add 37 = .ok (.iconst 1, 1) := by decide +kernel
theorem dX9_add_38 : decode cX9_add 38 = .ok (.iadd, 1) := by decide +kernel
theorem dX9_add_39 : decode cX9_add 39 = .ok (.putfield 22, 3) := by decide +kernel
theorem dX9_add_42 : decode cX9_add 42 = .ok (.iinc 2 (-8), 3) := by decide +kernel
theorem dX9_add_45 : decode cX9_add 45 = .ok (.goto (-33), 3) := by decide +kernel
theorem dX9_add_48 : decode cX9_add 48 = .ok (.return_, 1) := by decide +kernel
theorem dX9_shorten_0 : decode cX9_shorten 0 = .ok (.iconst 0, 1) := by decide +kernel
theorem dX9_shorten_1 : decode cX9_shorten 1 = .ok (.iload_n 1, 1) := by decide +kernel
theorem dX9_shorten_2 : decode cX9_shorten 2 = .ok (.aload_n 0, 1) := by decide +kernel
theorem dX9_shorten_3 : decode cX9_shorten 3 = .ok (.getfield 22, 3) := by decide +kernel
theorem dX9_shorten_6 : decode cX9_shorten 6 = .ok (.invokestatic 30, 3) := by decide +kernel
theorem dX9_shorten_9 : decode cX9_shorten 9 = .ok (.ifCond .ne 5, 3) := by decide +kernel
theorem dX9_shorten_12 : decode cX9_shorten 12 = .ok (.iconst 0, 1) := by decide +kernel
theorem dX9_shorten_13 : decode cX9_shorten 13 = .ok (.ireturn, 1) := by decide +kernel
theorem dX9_shorten_14 : decode cX9_shorten 14 = .ok (.aload_n 0, 1) := by decide +kernel
theorem dX9_shorten_15 : decode cX9_shorten 15 = .ok (.iload_n 1, 1) := by decide +kernel
theorem dX9_shorten_16 : decode cX9_shorten 16 = .ok (.putfield 22, 3) := by decide +kernel
theorem dX9_shorten_19 : decode cX9_shorten 19 = .ok (.iconst 1, 1) := by decide +kernel
theorem dX9_shorten_20 : decode cX9_shorten 20 = .ok (.ireturn, 1) := by decide +kernel
theorem dX9_split_0 : decode cX9_split 0 = .ok (.aload_n 0, 1) := by decide +kernel
theorem dX9_split_1 : decode cX9_split 1 = .ok (.iconst 0, 1) := by decide +kernel
theorem dX9_split_2 : decode cX9_split 2 = .ok (.putfield 36, 3) := by decide +kernel
theorem dX9_split_5 : decode cX9_split 5 = .ok (.iconst 0, 1) := by decide +kernel
theorem dX9_split_6 : decode cX9_split 6 = .ok (.istore_n 1, 1) := by decide +kernel
theorem dX9_split_7 : decode cX9_split 7 = .ok (.iload_n 1, 1) := by decide +kernel
theorem dX9_split_8 : decode cX9_split 8 = .ok (.aload_n 0, 1) := by decide +kernel
theorem dX9_split_9 : decode cX9_split 9 = .ok (.getfield 22, 3) := by decide +kernel
theorem dX9_split_12 : decode cX9_split 12 = .ok (.if_icmp .ge 138, 3) := by decide +kernel
theorem dX9_split_150 : decode cX9_split 150 = .ok (.aload_n 0, 1) := by decide +kernel
theorem dX9_split_151 : decode cX9_split 151 = .ok (.bipush 10, 2) := by decide +kernel
theorem dX9_split_153 : decode cX9_split 153 = .ok (.aload_n 0, 1) := by decide +kernel
theorem dX9_split_154 : decode cX9_split 154 = .ok (.getfield 22, 3) := by decide +kernel
theorem dX9_split_157 : decode cX9_split 157 = .ok (.iconst 0, 1) := by decide +kernel
theorem dX9_split_158 : decode cX9_split 158 = .ok (.invokevirtual 47, 3) := by decide +kernel
theorem dX9_split_161 : decode cX9_split 161 = .ok (.return_, 1) := by decide +kernel
theorem dX9_addToken_0 : decode cX9_addToken 0 = .ok (.aload_n 0, 1) := by decide +kernel
theorem dX9_addToken_1 : decode cX9_addToken 1 = .ok (.getfield 36, 3) := by decide +kernel
theorem dX9_addToken_4 : decode cX9_addToken 4 = .ok (.sipush 400, 3) := by decide +kernel
theorem dX9_addToken_7 : decode cX9_addToken 7 = .ok (.if_icmp .le 4, 3) := by decide +kernel
theorem dX9_addToken_11 : decode cX9_addToken 11 = .ok (.aload_n 0, 1) := by decide +kernel
theorem dX9_addToken_12 : decode cX9_addToken 12 = .ok (.getfield 13, 3) := by decide +kernel
theorem dX9_addToken_15 : decode cX9_addToken 15 = .ok (.aload_n 0, 1) := by decide +kernel
theorem dX9_addToken_16 : decode cX9_addToken 16 = .ok (.getfield 36, 3) := by decide +kernel
theorem dX9_addToken_19 : decode cX9_addToken 19 = .ok (.iload_n 1, 1) := by decide +kernel
theorem dX9_addToken_20 : decode cX9_addToken 20 = .ok (.iastore, 1) := by decide +kernel
theorem dX9_addToken_21 : decode cX9_addToken 21 = .ok (.aload_n 0, 1) := by decide +kernel
theorem dX9_addToken_22 : decode cX9_addToken 22 = .ok (.getfield 16, 3) := by decide +kernel
theorem dX9_addToken_25 : decode cX9_addToken 25 = .ok (.aload_n 0, 1) := by decide +kernel
theorem dX9_addToken_26 : decode cX9_addToken 26 = .ok (.getfield 36, 3) := by decide +kernel
theorem dX9_addToken_29 : decode cX9_addToken 29 = .ok (.iload_n 2, 1) := by decide +kernel
theorem dX9_addToken_30 : decode cX9_addToken 30 = .ok (.iastore, 1) := by decide +kernel
theorem dX9_addToken_31 : decode cX9_addToken 31 = .ok (.aload_n 0, 1) := by decide +kernel
theorem dX9_addToken_32 : decode cX9_addToken 32 = .ok (.getfield 19, 3) := by decide +kernel
theorem dX9_addToken_35 : decode cX9_addToken 35 = .ok (.aload_n 0, 1) := by decide +kernel
theorem dX9_addToken_36 : decode cX9_addToken 36 = .ok (.getfield 36, 3) := by decide +kernel
theorem dX9_addToken_39 : decode cX9_addToken 39 = .ok (.iload_n 3, 1) := by decide +kernel
theorem dX9_addToken_40 : decode cX9_addToken 40 = .ok (.iastore, 1) := by decide +kernel
theorem dX9_addToken_41 : decode cX9_addToken 41 = .ok (.aload_n 0, 1) := by decide +kernel
theorem dX9_addToken_42 : decode cX9_addToken 42 = .ok (.dup, 1) := by decide +kernel
theorem dX9_addToken_43 : decode cX9_addToken 43 = .ok (.getfield 36, 3) := by decide +kernel
theorem dX9_addToken_46 : decode cX9_addToken 46 = .ok (.iconst 1, 1) := by decide +kernel
theorem dX9_addToken_47 : decode cX9_addToken 47 = .ok (.iadd, 1) := by decide +kernel
theorem dX9_addToken_48 : decode cX9_addToken 48 = .ok (.putfield 36, 3) := by decide +kernel
theorem dX9_addToken_51 : decode cX9_addToken 51 = .ok (.return_, 1) := by decide +kernel
theorem dX10_init_0 : decode cX10_init 0 = .ok (.aload_n 0, 1) := by decide +kernel
theorem dX10_init_1 : decode cX10_init 1 = .ok (.invokespecial 1, 3) := by decide +kernel
theorem dX10_init_4 : decode cX10_init 4 = .ok (.aload_n 0, 1) := by decide +kernel
theorem dX10_init_5 : decode cX10_init 5 = .ok (.bipush 8, 2) := by decide +kernel
theorem dX10_init_7 : decode cX10_init 7 = .ok (.newarray .int, 2) := by decide +kernel
theorem dX10_init_9 : decode cX10_init 9 = .ok (.putfield 9, 3) := by decide +kernel
theorem dX10_init_12 : decode cX10_init 12 = .ok (.aload_n 0, 1) := by decide +kernel
theorem dX10_init_13 : decode cX10_init 13 = .ok (.bipush 8, 2) := by decide +kernel
theorem dX10_init_15 : decode cX10_init 15 = .ok (.newarray .int, 2) := by decide +kernel
theorem dX10_init_17 : decode cX10_init 17 = .ok (.putfield 13, 3) := by decide +kernel
theorem dX10_init_20 : decode cX10_init 20 = .ok (.aload_n 0, 1) := by decide +kernel
theorem dX10_init_21 : decode cX10_init 21 = .ok (.bipush 8, 2) := by decide +kernel
theorem dX10_init_23 : decode cX10_init 23 = .ok (.newarray .int, 2) := by decide +kernel
theorem dX10_init_25 : decode cX10_init 25 = .ok (.putfield 16, 3) := by decide +kernel
theorem dX10_init_28 : decode cX10_init 28 = .ok (.aload_n 0, 1) := by decide +kernel
theorem dX10_init_29 : decode cX10_init 29 = .ok (.bipush 8, 2) := by decide +kernel
theorem dX10_init_31 : decode cX10_init 31 = .ok (.newarray .int, 2) := by decide +kernel
theorem dX10_init_33 : decode cX10_init 33 = .ok (.putfield 19, 3) := by decide +kernel
theorem dX10_init_36 : decode cX10_init 36 = .ok (.aload_n 0, 1) := by decide +kernel
theorem dX10_init_37 : decode cX10_init 37 = .ok (.bipush 8, 2) := by decide +kernel
theorem dX10_init_39 : decode cX10_init 39 = .ok (.newarray .int, 2) := by decide +kernel
theorem dX10_init_41 : decode cX10_init 41 = .ok (.putfield 22, 3) := by decide +kernel
theorem dX10_init_44 : decode cX10_init 44 = .ok (.aload_n 0, 1) := by decide +kernel
theorem dX10_init_45 : decode cX10_init 45 = .ok (.bipush 8, 2) := by decide +kernel
theorem dX10_init_47 : decode cX10_init 47 = .ok (.newarray .boolean, 2) := by decide +kernel
theorem dX10_init_49 : decode cX10_init 49 = .ok (.putfield 25, 3) := by decide +kernel
theorem dX10_init_52 : decode cX10_init 52 = .ok (.return_, 1) := by decide +kernel
theorem dX10_clear_0 : decode cX10_clear 0 = .ok (.aload_n 0, 1) := by decide +kernel
theorem dX10_clear_1 : decode cX10_clear 1 = .ok (.iconst 0, 1) := by decide +kernel
theorem dX10_clear_2 : decode cX10_clear 2 = .ok (.putfield 29, 3) := by decide +kernel
theorem dX10_clear_5 : decode cX10_clear 5 = .ok (.aload_n 0, 1) := by decide +kernel
theorem dX10_clear_6 : decode cX10_clear 6 = .ok (.iconst 0, 1) := by decide +kernel
theorem dX10_clear_7 : decode cX10_clear 7 = .ok (.putfield 33, 3) := by decide +kernel
theorem dX10_clear_10 : decode cX10_clear 10 = .ok (.return_, 1) := by decide +kernel
theorem dX11_init_0 : decode cX11_init 0 = .ok (.aload_n 0, 1) := by decide +kernel
theorem dX11_init_1 : decode cX11_init 1 = .ok (.invokespecial 1, 3) := by decide +kernel
theorem dX11_init_4 : decode cX11_init 4 = .ok (.aload_n 0, 1) := by decide +kernel
theorem dX11_init_5 : decode cX11_init 5 = .ok (.new 7, 3) := by decide +kernel
theorem dX11_init_8 : decode cX11_init 8 = .ok (.dup, 1) := by decide +kernel
theorem dX11_init_9 : decode cX11_init 9 = .ok (.invokespecial 9, 3) := by decide +kernel
theorem dX11_init_12 : decode cX11_init 12 = .ok (.putfield 10, 3) := by decide +kernel
theorem dX11_init_15 : decode cX11_init 15 = .ok (.aload_n 0, 1) := by decide +kernel
theorem dX11_init_16 : decode cX11_init 16 = .ok (.new 16, 3) := by decide +kernel
theorem dX11_init_19 : decode cX11_init 19 = .ok (.dup, 1) := by decide +kernel
theorem dX11_init_20 : decode cX11_init 20 = .ok (.aload_n 0, 1) := by decide +kernel
theorem dX11_init_21 : decode cX11_init 21 = .ok (.getfield 10, 3) := by decide +kernel
theorem dX11_init_24 : decode cX11_init 24 = .ok (.invokespecial 18, 3) := by decide +kernel
theorem dX11_init_27 : decode cX11_init 27 = .ok (.putfield 21, 3) := by decide +kernel
theorem dX11_init_30 : decode cX11_init 30 = .ok (.aload_n 0, 1) := by decide +kernel
theorem dX11_init_31 : decode cX11_init 31 = .ok (.bipush 6, 2) := by decide +kernel
theorem dX11_init_33 : decode cX11_init 33 = .ok (.anewarray 25, 3) := by decide +kernel
theorem dX11_init_36 : decode cX11_init 36 = .ok (.putfield 27, 3) := by decide +kernel
theorem dX11_init_39 : decode cX11_init 39 = .ok (.aload_n 0, 1) := by decide +kernel
theorem dX11_init_40 : decode cX11_init 40 = .ok (.iconst 4, 1) := by decide +kernel
theorem dX11_init_41 : decode cX11_init 41 = .ok (.anewarray 31, 3) := by decide +kernel
theorem dX11_init_44 : decode cX11_init 44 = .ok (.putfield 33, 3) := by decide +kernel
theorem dX11_init_47 : decode cX11_init 47 = .ok (.aload_n 0, 1) := by decide +kernel
theorem dX11_init_48 : decode cX11_init 48 = .ok (.new 37, 3) := by decide +kernel
theorem dX11_init_51 : decode cX11_init 51 = .ok (.dup, 1) := by decide +kernel
theorem dX11_init_52 : decode cX11_init 52 = .ok (.invokespecial 39, 3) := by decide +kernel
theorem dX11_init_55 : decode cX11_init 55 = .ok (.putfield 40, 3) := by decide +kernel
theorem dX11_init_58 : decode cX11_init 58 = .ok (.aload_n 0, 1) := by decide +kernel
theorem dX11_init_59 : decode cX11_init 59 = .ok (.iconst 3, 1) := by decide +kernel
theorem dX11_init_60 : decode cX11_init 60 = .ok (.anewarray 37, 3) := by decide +kernel
theorem dX11_init_63 : decode cX11_init 63 = .ok (.putfield 44, 3) := by decide +kernel
theorem dX11_init_66 : decode cX11_init 66 = .ok (.aload_n 0, 1) := by decide +kernel
theorem dX11_init_67 : decode cX11_init 67 = .ok (.new 48, 3) := by decide +kernel
theorem dX11_init_70 : decode cX11_init 70 = .ok (.dup, 1) := by decide +kernel
theorem dX11_init_71 : decode cX11_init 71 = .ok (.invokespecial 50, 3) := by decide +kernel
theorem dX11_init_74 : decode cX11_init 74 = .ok (.putfield 51, 3) := by decide +kernel
theorem dX11_init_77 : decode cX11_init 77 = .ok (.aload_n 0, 1) := by decide +kernel
theorem dX11_init_78 : decode cX11_init 78 = .ok (.new 55, 3) := by decide +kernel
theorem dX11_init_81 : decode cX11_init 81 = .ok (.dup, 1) := by decide +kernel
theorem dX11_init_82 : decode cX11_init 82 = .ok (.invokespecial 57, 3) := by decide +kernel
theorem dX11_init_85 : decode cX11_init 85 = .ok (.putfield 58, 3) := by decide +kernel
theorem dX11_init_88 : decode cX11_init 88 = .ok (.aload_n 0, 1) := by decide +kernel
theorem dX11_init_89 : decode cX11_init 89 = .ok (.new 62, 3) := by decide +kernel
theorem dX11_init_92 : decode cX11_init 92 = .ok (.dup, 1) := by decide +kernel
theorem dX11_init_93 : decode cX11_init 93 = .ok (.invokespecial 64, 3) := by decide +kernel
theorem dX11_init_96 : decode cX11_init 96 = .ok (.putfield 65, 3) := by decide +kernel
theorem dX11_init_99 : decode cX11_init 99 = .ok (.aload_n 0, 1) := by decide +kernel
theorem dX11_init_100 : decode cX11_init 100 = .ok (.new 69, 3) := by decide +kernel
theorem dX11_init_103 : decode cX11_init 103 = .ok (.dup, 1) := by decide +kernel
theorem dX11_init_104 : decode cX11_init 104 = .ok (.invokespecial 71, 3) := by decide +kernel
theorem dX11_init_107 : decode cX11_init 107 = .ok (.putfield 72, 3) := by decide +kernel
theorem dX11_init_110 : decode cX11_init 110 = .ok (.aload_n 0, 1) := by decide +kernel
theorem dX11_init_111 : decode cX11_init 111 = .ok (.new 76, 3) := by decide +kernel
theorem dX11_init_114 : decode cX11_init 114 = .ok (.dup, 1) := by decide +kernel
theorem dX11_init_115 : decode cX11_init 115 = .ok (.invokespecial 78, 3) := by decide +kernel
theorem dX11_init_118 : decode cX11_init 118 = .ok (.putfield 79, 3) := by decide +kernel
theorem dX11_init_121 : decode cX11_init 121 = .ok (.aload_n 0, 1) := by decide +kernel
theorem dX11_init_122 : decode cX11_init 122 = .ok (.new 25, 3) := by decide +kernel
theorem dX11_init_125 : decode cX11_init 125 = .ok (.dup, 1) := by decide +kernel
theorem dX11_init_126 : decode cX11_init 126 = .ok (.invokespecial 83, 3) := by decide +kernel
theorem dX11_init_129 : decode cX11_init 129 = .ok (.putfield 84, 3) := by decide +kernel
theorem dX11_init_132 : decode cX11_init 132 = .ok (.aload_n 0, 1) := by decide +kernel
theorem dX11_init_133 : decode cX11_init 133 = .ok (.iconst 0, 1) := by decide +kernel
theorem dX11_init_134 : decode cX11_init 134 = .ok (.putfield 88, 3) := by decide +kernel
theorem dX11_init_137 : decode cX11_init 137 = .ok (.aload_n 0, 1) := by decide +kernel
theorem dX11_init_138 : decode cX11_init 138 = .ok (.iconst 0, 1) := by decide +kernel
theorem dX11_init_139 : decode cX11_init 139 = .ok (.putfield 92, 3) := by decide +kernel
theorem dX11_init_142 : decode cX11_init 142 = .ok (.aload_n 0, 1) := by decide +kernel
theorem dX11_init_143 : decode cX11_init 143 = .ok (.iconst 5, 1) := by decide +kernel
theorem dX11_init_144 : decode cX11_init 144 = .ok (.putfield 95, 3) := by decide +kernel
theorem dX11_init_147 : decode cX11_init 147 = .ok (.return_, 1) := by decide +kernel
theorem dX11_feed_0 : decode cX11_feed 0 = .ok (.aload_n 0, 1) := by decide +kernel
theorem dX11_feed_1 : decode cX11_feed 1 = .ok (.getfield 10, 3) := by decide +kernel
theorem dX11_feed_4 : decode cX11_feed 4 = .ok (.bipush 20, 2) := by decide +kernel
theorem dX11_feed_6 : decode cX11_feed 6 = .ok (.invokevirtual 98, 3) := by decide +kernel
theorem dX11_feed_9 : decode cX11_feed 9 = .ok (.ifCond .ne 5, 3) := by decide +kernel
theorem dX11_feed_14 : decode cX11_feed 14 = .ok (.aload_n 0, 1) := by decide +kernel
theorem dX11_feed_15 : decode cX11_feed 15 = .ok (.getfield 10, 3) := by decide +kernel
theorem dX11_feed_18 : decode cX11_feed 18 = .ok (.iload_n 1, 1) := by decide +kernel
theorem dX11_feed_19 : decode cX11_feed 19 = .ok (.invokevirtual 102, 3) := by decide +kernel
theorem dX11_feed_22 : decode cX11_feed 22 = .ok (.aload_n 0, 1) := by decide +kernel
theorem dX11_feed_23 : decode cX11_feed 23 = .ok (.getfield 10, 3) := by decide +kernel
theorem dX11_feed_26 : decode cX11_feed 26 = .ok (.iload_n 2, 1) := by decide +kernel
theorem dX11_feed_27 : decode cX11_feed 27 = .ok (.invokevirtual 102, 3) := by decide +kernel
theorem dX11_feed_30 : decode cX11_feed 30 = .ok (.aload_n 0, 1) := by decide +kernel
theorem dX11_feed_31 : decode cX11_feed 31 = .ok (.getfield 10, 3) := by decide +kernel
theorem dX11_feed_34 : decode cX11_feed 34 = .ok (.iload_n 3, 1) := by decide +kernel
theorem dX11_feed_35 : decode cX11_feed 35 = .ok (.invokevirtual 102, 3) := by decide +kernel
theorem dX11_feed_38 : decode cX11_feed 38 = .ok (.aload_n 0, 1) := by decide +kernel
theorem dX11_feed_39 : decode cX11_feed 39 = .ok (.getfield 10, 3) := by decide +kernel
theorem dX11_feed_42 : decode cX11_feed 42 = .ok (.iload 4, 2) := by decide +kernel
theorem dX11_feed_44 : decode cX11_feed 44 = .ok (.invokevirtual 102, 3) := by decide +kernel
theorem dX11_feed_47 : decode cX11_feed 47 = .ok (.aload_n 0, 1) := by decide +kernel
theorem dX11_feed_48 : decode cX11_feed 48 = .ok (.getfield 10, 3) := by decide +kernel
theorem dX11_feed_51 : decode cX11_feed 51 = .ok (.iload 5, 2) := by decide +kernel
theorem dX11_feed_53 : decode cX11_feed 53 = .ok (.invokevirtual 102, 3) := by decide +kernel
theorem dX11_feed_56 : decode cX11_feed 56 = .ok (.aload_n 0, 1) := by decide +kernel
theorem dX11_feed_57 : decode cX11_feed 57 = .ok (.getfield 10, 3) := by decide +kernel
theorem dX11_feed_60 : decode cX11_feed 60 = .ok (.getfield 106, 3) := by decide +kernel
theorem dX11_feed_63 : decode cX11_feed 63 = .ok (.ireturn, 1) := by decide +kernel
theorem dX11_end_0 : decode cX11_end 0 = .ok (.aload_n 0, 1) := by decide +kernel
theorem dX11_end_1 : decode cX11_end 1 = .ok (.getfield 10, 3) := by decide +kernel
theorem dX11_end_4 : decode cX11_end 4 = .ok (.iload_n 1, 1) := by decide +kernel
theorem dX11_end_5 : decode cX11_end 5 = .ok (.invokevirtual 109, 3) := by decide +kernel
theorem dX11_end_8 : decode cX11_end 8 = .ok (.ireturn, 1) := by decide +kernel
theorem dX11_fault_0 : decode cX11_fault 0 = .ok (.aload_n 0, 1) := by decide +kernel
theorem dX11_fault_1 : decode cX11_fault 1 = .ok (.getfield 21, 3) := by decide +kernel
theorem dX11_fault_4 : decode cX11_fault 4 = .ok (.aload_n 0, 1) := by decide +kernel
theorem dX11_fault_5 : decode cX11_fault 5 = .ok (.getfield 84, 3) := by decide +kernel
theorem dX11_fault_8 : decode cX11_fault 8 = .ok (.invokevirtual 112, 3) := by decide +kernel
theorem dX11_fault_11 : decode cX11_fault 11 = .ok (.ireturn, 1) := by decide +kernel
theorem dX11_room_0 : decode cX11_room 0 = .ok (.aload_n 0, 1) := by decide +kernel
theorem dX11_room_1 : decode cX11_room 1 = .ok (.getfield 88, 3) := by decide +kernel
theorem dX11_room_4 : decode cX11_room 4 = .ok (.bipush 6, 2) := by decide +kernel
theorem dX11_room_6 : decode cX11_room 6 = .ok (.if_icmp .ge 18, 3) := by decide +kernel
theorem dX11_room_9 : decode cX11_room 9 = .ok (.aload_n 0, 1) := by decide +kernel
theorem dX11_room_10 : decode cX11_room 10 = .ok (.getfield 21, 3) := by decide +kernel
theorem dX11_room_13 : decode cX11_room 13 = .ok (.aload_n 0, 1) := by decide +kernel
theorem dX11_room_14 : decode cX11_room 14 = .ok (.getfield 84, 3) := by decide +kernel
theorem dX11_room_17 : decode cX11_room 17 = .ok (.invokevirtual 112, 3) := by decide +kernel
theorem dX11_room_20 : decode cX11_room 20 = .ok (.iconst (-1), 1) := by decide +kernel
theorem dX11_room_21 : decode cX11_room 21 = .ok (.if_icmp .eq 5, 3) := by decide +kernel
theorem dX11_room_24 : decode cX11_room 24 = .ok (.iconst (-1), 1) := by decide +kernel
theorem dX11_room_25 : decode cX11_room 25 = .ok (.ireturn, 1) := by decide +kernel
theorem dX11_of_0 : decode cX11_of 0 = .ok (.aload_n 0, 1) := by decide +kernel
theorem dX11_of_1 : decode cX11_of 1 = .ok (.iload_n 1, 1) := by decide +kernel
theorem dX11_of_2 : decode cX11_of 2 = .ok (.invokevirtual 116, 3) := by decide +kernel
theorem dX11_of_5 : decode cX11_of 5 = .ok (.astore_n 3, 1) := by decide +kernel
theorem dX11_of_6 : decode cX11_of 6 = .ok (.aload_n 3, 1) := by decide +kernel
theorem dX11_of_7 : decode cX11_of 7 = .ok (.ifnull 16, 3) := by decide +kernel
theorem dX11_of_23 : decode cX11_of 23 = .ok (.iconst (-1), 1) := by decide +kernel
theorem dX11_of_24 : decode cX11_of 24 = .ok (.ireturn, 1) := by decide +kernel
theorem dX11_height_0 : decode cX11_height 0 = .ok (.aload_n 0, 1) := by decide +kernel
theorem dX11_height_1 : decode cX11_height 1 = .ok (.iload_n 1, 1) := by decide +kernel
theorem dX11_height_2 : decode cX11_height 2 = .ok (.invokevirtual 116, 3) := by decide +kernel
theorem dX11_height_5 : decode cX11_height 5 = .ok (.astore_n 3, 1) := by decide +kernel
theorem dX11_height_6 : decode cX11_height 6 = .ok (.aload_n 3, 1) := by decide +kernel
theorem dX11_height_7 : decode cX11_height 7 = .ok (.ifnull 20, 3) := by decide +kernel
theorem dX11_height_27 : decode cX11_height 27 = .ok (.iconst (-1), 1) := by decide +kernel
theorem dX11_height_28 : decode cX11_height 28 = .ok (.ireturn, 1) := by decide +kernel
theorem dX11_paper_0 : decode cX11_paper 0 = .ok (.aload_n 0, 1) := by decide +kernel
theorem dX11_paper_1 : decode cX11_paper 1 = .ok (.getfield 92, 3) := by decide +kernel
theorem dX11_paper_4 : decode cX11_paper 4 = .ok (.iconst 4, 1) := by decide +kernel
theorem dX11_paper_5 : decode cX11_paper 5 = .ok (.if_icmp .ge 16, 3) := by decide +kernel
theorem dX11_paper_8 : decode cX11_paper 8 = .ok (.iload_n 1, 1) := by decide +kernel
theorem dX11_paper_9 : decode cX11_paper 9 = .ok (.iload_n 2, 1) := by decide +kernel
theorem dX11_paper_10 : decode cX11_paper 10 = .ok (.iload_n 3, 1) := by decide +kernel
theorem dX11_paper_11 : decode cX11_paper 11 = .ok (.iload 4, 2) := by decide +kernel
theorem dX11_paper_13 : decode cX11_paper 13 = .ok (.iload 5, 2) := by decide +kernel
theorem dX11_paper_15 : decode cX11_paper 15 = .ok (.invokestatic 167, 3) := by decide +kernel
theorem dX11_paper_18 : decode cX11_paper 18 = .ok (.ifCond .ne 5, 3) := by decide +kernel
theorem dX11_paper_21 : decode cX11_paper 21 = .ok (.iconst (-1), 1) := by decide +kernel
theorem dX11_paper_22 : decode cX11_paper 22 = .ok (.ireturn, 1) := by decide +kernel
theorem dX11_paper_23 : decode cX11_paper 23 = .ok (.aload_n 0, 1) := by decide +kernel
theorem dX11_paper_24 : decode cX11_paper 24 = .ok (.getfield 33, 3) := by decide +kernel
theorem dX11_paper_27 : decode cX11_paper 27 = .ok (.aload_n 0, 1) := by decide +kernel
theorem dX11_paper_28 : decode cX11_paper 28 = .ok (.getfield 92, 3) := by decide +kernel
theorem dX11_paper_31 : decode cX11_paper 31 = .ok (.new 31, 3) := by decide +kernel
theorem dX11_paper_34 : decode cX11_paper 34 = .ok (.dup, 1) := by decide +kernel
theorem dX11_paper_35 : decode cX11_paper 35 = .ok (.iload_n 1, 1) := by decide +kernel
theorem dX11_paper_36 : decode cX11_paper 36 = .ok (.iload_n 2, 1) := by decide +kernel
theorem dX11_paper_37 : decode cX11_paper 37 = .ok (.iload_n 3, 1) := by decide +kernel
theorem dX11_paper_38 : decode cX11_paper 38 = .ok (.iload 4, 2) := by decide +kernel
theorem dX11_paper_40 : decode cX11_paper 40 = .ok (.iload 5, 2) := by decide +kernel
theorem dX11_paper_42 : decode cX11_paper 42 = .ok (.invokespecial 171, 3) := by decide +kernel
theorem dX11_paper_45 : decode cX11_paper 45 = .ok (.aastore, 1) := by decide +kernel
theorem dX11_paper_46 : decode cX11_paper 46 = .ok (.aload_n 0, 1) := by decide +kernel
theorem dX11_paper_47 : decode cX11_paper 47 = .ok (.dup, 1) := by decide +kernel
theorem dX11_paper_48 : decode cX11_paper 48 = .ok (.getfield 92, 3) := by decide +kernel
theorem dX11_paper_51 : decode cX11_paper 51 = .ok (.iconst 1, 1) := by decide +kernel
theorem dX11_paper_52 : decode cX11_paper 52 = .ok (.iadd, 1) := by decide +kernel
theorem dX11_paper_53 : decode cX11_paper 53 = .ok (.putfield 92, 3) := by decide +kernel
theorem dX11_paper_56 : decode cX11_paper 56 = .ok (.aload_n 0, 1) := by decide +kernel
theorem dX11_paper_57 : decode cX11_paper 57 = .ok (.getfield 92, 3) := by decide +kernel
theorem dX11_paper_60 : decode cX11_paper 60 = .ok (.iconst 1, 1) := by decide +kernel
theorem dX11_paper_61 : decode cX11_paper 61 = .ok (.isub, 1) := by decide +kernel
theorem dX11_paper_62 : decode cX11_paper 62 = .ok (.ireturn, 1) := by decide +kernel
theorem dX11_trim_0 : decode cX11_trim 0 = .ok (.iconst 0, 1) := by decide +kernel
theorem dX11_trim_1 : decode cX11_trim 1 = .ok (.iload_n 1, 1) := by decide +kernel
theorem dX11_trim_2 : decode cX11_trim 2 = .ok (.bipush 20, 2) := by decide +kernel
theorem dX11_trim_4 : decode cX11_trim 4 = .ok (.invokestatic 159, 3) := by decide +kernel
theorem dX11_trim_7 : decode cX11_trim 7 = .ok (.ifCond .ne 5, 3) := by decide +kernel
theorem dX11_trim_10 : decode cX11_trim 10 = .ok (.iconst 0, 1) := by decide +kernel
theorem dX11_trim_11 : decode cX11_trim 11 = .ok (.ireturn, 1) := by decide +kernel
theorem dX11_trim_12 : decode cX11_trim 12 = .ok (.aload_n 0, 1) := by decide +kernel
theorem dX11_trim_13 : decode cX11_trim 13 = .ok (.iload_n 1, 1) := by decide +kernel
theorem dX11_trim_14 : decode cX11_trim 14 = .ok (.putfield 95, 3) := by decide +kernel
theorem dX11_trim_17 : decode cX11_trim 17 = .ok (.iconst 1, 1) := by decide +kernel
theorem dX11_trim_18 : decode cX11_trim 18 = .ok (.ireturn, 1) := by decide +kernel
theorem dX11_done_0 : decode cX11_done 0 = .ok (.aload_n 0, 1) := by decide +kernel
theorem dX11_done_1 : decode cX11_done 1 = .ok (.iload_n 1, 1) := by decide +kernel
theorem dX11_done_2 : decode cX11_done 2 = .ok (.invokevirtual 116, 3) := by decide +kernel
theorem dX11_done_5 : decode cX11_done 5 = .ok (.astore 5, 2) := by decide +kernel
theorem dX11_done_7 : decode cX11_done 7 = .ok (.aload_n 0, 1) := by decide +kernel
theorem dX11_done_8 : decode cX11_done 8 = .ok (.iload_n 2, 1) := by decide +kernel
theorem dX11_done_9 : decode cX11_done 9 = .ok (.invokevirtual 174, 3) := by decide +kernel
theorem dX11_done_12 : decode cX11_done 12 = .ok (.astore 6, 2) := by decide +kernel
theorem dX11_done_14 : decode cX11_done 14 = .ok (.aload 5, 2) := by decide +kernel
theorem dX11_done_16 : decode cX11_done 16 = .ok (.ifnull 8, 3) := by decide +kernel
theorem dX11_done_24 : decode cX11_done 24 = .ok (.iconst (-1), 1) := by decide +kernel
theorem dX11_done_25 : decode cX11_done 25 = .ok (.ireturn, 1) := by decide +kernel
theorem dX11_strip_0 : decode cX11_strip 0 = .ok (.aload_n 0, 1) := by decide +kernel
theorem dX11_strip_1 : decode cX11_strip 1 = .ok (.iload_n 1, 1) := by decide +kernel
theorem dX11_strip_2 : decode cX11_strip 2 = .ok (.invokevirtual 120, 3) := by decide +kernel
theorem dX11_strip_5 : decode cX11_strip 5 = .ok (.ifCond .eq 20, 3) := by decide +kernel
theorem dX11_strip_25 : decode cX11_strip 25 = .ok (.iconst (-1), 1) := by decide +kernel
theorem dX11_strip_26 : decode cX11_strip 26 = .ok (.ireturn, 1) := by decide +kernel
theorem dX11_piece_0 : decode cX11_piece 0 = .ok (.aload_n 0, 1) := by decide +kernel
theorem dX11_piece_1 : decode cX11_piece 1 = .ok (.iload_n 1, 1) := by decide +kernel
theorem dX11_piece_2 : decode cX11_piece 2 = .ok (.invokevirtual 120, 3) := by decide +kernel
theorem dX11_piece_5 : decode cX11_piece 5 = .ok (.ifCond .eq 20, 3) := by decide +kernel
theorem dX11_piece_25 : decode cX11_piece 25 = .ok (.iconst (-1), 1) := by decide +kernel
theorem dX11_piece_26 : decode cX11_piece 26 = .ok (.ireturn, 1) := by decide +kernel
theorem dX11_rolls_0 : decode cX11_rolls 0 = .ok (.aload_n 0, 1) := by decide +kernel
theorem dX11_rolls_1 : decode cX11_rolls 1 = .ok (.iload_n 1, 1) := by decide +kernel
theorem dX11_rolls_2 : decode cX11_rolls 2 = .ok (.invokevirtual 120, 3) := by decide +kernel
theorem dX11_rolls_5 : decode cX11_rolls 5 = .ok (.ifCond .eq 10, 3) := by decide +kernel
theorem dX11_rolls_15 : decode cX11_rolls 15 = .ok (.iconst (-1), 1) := by decide +kernel
theorem dX11_rolls_16 : decode cX11_rolls 16 = .ok (.ireturn, 1) := by decide +kernel
theorem dX11_left_0 : decode cX11_left 0 = .ok (.aload_n 0, 1) := by decide +kernel
theorem dX11_left_1 : decode cX11_left 1 = .ok (.iload_n 1, 1) := by decide +kernel
theorem dX11_left_2 : decode cX11_left 2 = .ok (.invokevirtual 120, 3) := by decide +kernel
theorem dX11_left_5 : decode cX11_left 5 = .ok (.ifCond .eq 27, 3) := by decide +kernel
theorem dX11_left_32 : decode cX11_left 32 = .ok (.iconst (-1), 1) := by decide +kernel
theorem dX11_left_33 : decode cX11_left 33 = .ok (.ireturn, 1) := by decide +kernel
theorem dX11_faults_0 : decode cX11_faults 0 = .ok (.aload_n 0, 1) := by decide +kernel
theorem dX11_faults_1 : decode cX11_faults 1 = .ok (.iload_n 1, 1) := by decide +kernel
theorem dX11_faults_2 : decode cX11_faults 2 = .ok (.invokevirtual 120, 3) := by decide +kernel
theorem dX11_faults_5 : decode cX11_faults 5 = .ok (.ifCond .ne 5, 3) := by decide +kernel
theorem dX11_faults_8 : decode cX11_faults 8 = .ok (.iconst (-1), 1) := by decide +kernel
theorem dX11_faults_9 : decode cX11_faults 9 = .ok (.ireturn, 1) := by decide +kernel
theorem dX11_best_0 : decode cX11_best 0 = .ok (.aload_n 0, 1) := by decide +kernel
theorem dX11_best_1 : decode cX11_best 1 = .ok (.iload_n 1, 1) := by decide +kernel
theorem dX11_best_2 : decode cX11_best 2 = .ok (.invokevirtual 116, 3) := by decide +kernel
theorem dX11_best_5 : decode cX11_best 5 = .ok (.astore 5, 2) := by decide +kernel
theorem dX11_best_7 : decode cX11_best 7 = .ok (.aload_n 0, 1) := by decide +kernel
theorem dX11_best_8 : decode cX11_best 8 = .ok (.iload_n 2, 1) := by decide +kernel
theorem dX11_best_9 : decode cX11_best 9 = .ok (.invokevirtual 174, 3) := by decide +kernel
theorem dX11_best_12 : decode cX11_best 12 = .ok (.astore 6, 2) := by decide +kernel
theorem dX11_best_14 : decode cX11_best 14 = .ok (.aload 5, 2) := by decide +kernel
theorem dX11_best_16 : decode cX11_best 16 = .ok (.ifnull 28, 3) := by decide +kernel
theorem dX11_best_44 : decode cX11_best 44 = .ok (.iconst (-1), 1) := by decide +kernel
theorem dX11_best_45 : decode cX11_best 45 = .ok (.ireturn, 1) := by decide +kernel
theorem dX11_shown_0 : decode cX11_shown 0 = .ok (.aload_n 0, 1) := by decide +kernel
theorem dX11_shown_1 : decode cX11_shown 1 = .ok (.iload_n 1, 1) := by decide +kernel
theorem dX11_shown_2 : decode cX11_shown 2 = .ok (.invokevirtual 116, 3) := by decide +kernel
theorem dX11_shown_5 : decode cX11_shown 5 = .ok (.astore_n 3, 1) := by decide +kernel
theorem dX11_shown_6 : decode cX11_shown 6 = .ok (.aload_n 3, 1) := by decide +kernel
theorem dX11_shown_7 : decode cX11_shown 7 = .ok (.ifnull 14, 3) := by decide +kernel
theorem dX11_shown_21 : decode cX11_shown 21 = .ok (.iconst (-1), 1) := by decide +kernel
theorem dX11_shown_22 : decode cX11_shown 22 = .ok (.ireturn, 1) := by decide +kernel
end
section
theorem dX11_run_0 : decode cX11_run 0 = .ok (.aload_n 0, 1) := by decide +kernel
theorem dX11_run_1 : decode cX11_run 1 = .ok (.iload_n 1, 1) := by decide +kernel
theorem dX11_run_2 : decode cX11_run 2 = .ok (.invokevirtual 116, 3) := by decide +kernel
theorem dX11_run_5 : decode cX11_run 5 = .ok (.astore 4, 2) := by decide +kernel
theorem dX11_run_7 : decode cX11_run 7 = .ok (.aload 4, 2) := by decide +kernel
theorem dX11_run_9 : decode cX11_run 9 = .ok (.ifnull 33, 3) := by decide +kernel
theorem dX11_run_42 : decode cX11_run 42 = .ok (.ldc_w 297, 3) := by decide +kernel
theorem dX11_run_45 : decode cX11_run 45 = .ok (.ireturn, 1) := by decide +kernel
theorem dX11_cuts_0 : decode cX11_cuts 0 = .ok (.aload_n 0, 1) := by decide +kernel
theorem dX11_cuts_1 : decode cX11_cuts 1 = .ok (.iload_n 1, 1) := by decide +kernel
theorem dX11_cuts_2 : decode cX11_cuts 2 = .ok (.invokevirtual 116, 3) := by decide +kernel
theorem dX11_cuts_5 : decode cX11_cuts 5 = .ok (.astore_n 2, 1) := by decide +kernel
theorem dX11_cuts_6 : decode cX11_cuts 6 = .ok (.aload_n 2, 1) := by decide +kernel
theorem dX11_cuts_7 : decode cX11_cuts 7 = .ok (.ifnonnull 7, 3) := by decide +kernel
theorem dX11_cuts_10 : decode cX11_cuts 10 = .ok (.iconst (-1), 1) := by decide +kernel
theorem dX11_cuts_11 : decode cX11_cuts 11 = .ok (.goto 10, 3) := by decide +kernel
theorem dX11_cuts_21 : decode cX11_cuts 21 = .ok (.ireturn, 1) := by decide +kernel
theorem dX11_batch_0 : decode cX11_batch 0 = .ok (.aload_n 0, 1) := by decide +kernel
theorem dX11_batch_1 : decode cX11_batch 1 = .ok (.iload_n 1, 1) := by decide +kernel
theorem dX11_batch_2 : decode cX11_batch 2 = .ok (.invokevirtual 174, 3) := by decide +kernel
theorem dX11_batch_5 : decode cX11_batch 5 = .ok (.ifnonnull 5, 3) := by decide +kernel
theorem dX11_batch_8 : decode cX11_batch 8 = .ok (.iconst (-1), 1) := by decide +kernel
theorem dX11_batch_9 : decode cX11_batch 9 = .ok (.ireturn, 1) := by decide +kernel
theorem dX11_shared_0 : decode cX11_shared 0 = .ok (.aload_n 0, 1) := by decide +kernel
theorem dX11_shared_1 : decode cX11_shared 1 = .ok (.iload_n 1, 1) := by decide +kernel
theorem dX11_shared_2 : decode cX11_shared 2 = .ok (.invokevirtual 120, 3) := by decide +kernel
theorem dX11_shared_5 : decode cX11_shared 5 = .ok (.ifCond .eq 34, 3) := by decide +kernel
theorem dX11_shared_39 : decode cX11_shared 39 = .ok (.iconst (-1), 1) := by decide +kernel
theorem dX11_shared_40 : decode cX11_shared 40 = .ok (.ireturn, 1) := by decide +kernel
theorem dX11_own_0 : decode cX11_own 0 = .ok (.aload_n 0, 1) := by decide +kernel
theorem dX11_own_1 : decode cX11_own 1 = .ok (.iload_n 1, 1) := by decide +kernel
theorem dX11_own_2 : decode cX11_own 2 = .ok (.invokevirtual 120, 3) := by decide +kernel
theorem dX11_own_5 : decode cX11_own 5 = .ok (.ifCond .eq 26, 3) := by decide +kernel
theorem dX11_own_31 : decode cX11_own 31 = .ok (.iconst (-1), 1) := by decide +kernel
theorem dX11_own_32 : decode cX11_own 32 = .ok (.ireturn, 1) := by decide +kernel
theorem dX11_all_0 : decode cX11_all 0 = .ok (.aload_n 0, 1) := by decide +kernel
theorem dX11_all_1 : decode cX11_all 1 = .ok (.iload_n 1, 1) := by decide +kernel
theorem dX11_all_2 : decode cX11_all 2 = .ok (.invokevirtual 174, 3) := by decide +kernel
theorem dX11_all_5 : decode cX11_all 5 = .ok (.astore_n 2, 1) := by decide +kernel
theorem dX11_all_6 : decode cX11_all 6 = .ok (.aload_n 2, 1) := by decide +kernel
theorem dX11_all_7 : decode cX11_all 7 = .ok (.ifnonnull 5, 3) := by decide +kernel
theorem dX11_all_10 : decode cX11_all 10 = .ok (.iconst (-1), 1) := by decide +kernel
theorem dX11_all_11 : decode cX11_all 11 = .ok (.ireturn, 1) := by decide +kernel
theorem dX11_keep_0 : decode cX11_keep 0 = .ok (.aload_n 0, 1) := by decide +kernel
theorem dX11_keep_1 : decode cX11_keep 1 = .ok (.iload_n 1, 1) := by decide +kernel
theorem dX11_keep_2 : decode cX11_keep 2 = .ok (.invokevirtual 174, 3) := by decide +kernel
theorem dX11_keep_5 : decode cX11_keep 5 = .ok (.astore 4, 2) := by decide +kernel
theorem dX11_keep_7 : decode cX11_keep 7 = .ok (.aload 4, 2) := by decide +kernel
theorem dX11_keep_9 : decode cX11_keep 9 = .ok (.ifnull 18, 3) := by decide +kernel
theorem dX11_keep_27 : decode cX11_keep 27 = .ok (.iconst (-1), 1) := by decide +kernel
theorem dX11_keep_28 : decode cX11_keep 28 = .ok (.ireturn, 1) := by decide +kernel
theorem dX11_mended_0 : decode cX11_mended 0 = .ok (.aload_n 0, 1) := by decide +kernel
theorem dX11_mended_1 : decode cX11_mended 1 = .ok (.iload_n 1, 1) := by decide +kernel
theorem dX11_mended_2 : decode cX11_mended 2 = .ok (.invokevirtual 120, 3) := by decide +kernel
theorem dX11_mended_5 : decode cX11_mended 5 = .ok (.ifCond .eq 27, 3) := by decide +kernel
theorem dX11_mended_32 : decode cX11_mended 32 = .ok (.iconst (-1), 1) := by decide +kernel
theorem dX11_mended_33 : decode cX11_mended 33 = .ok (.ireturn, 1) := by decide +kernel
theorem dX11_border_0 : decode cX11_border 0 = .ok (.aload_n 0, 1) := by decide +kernel
theorem dX11_border_1 : decode cX11_border 1 = .ok (.iload_n 1, 1) := by decide +kernel
theorem dX11_border_2 : decode cX11_border 2 = .ok (.invokevirtual 116, 3) := by decide +kernel
theorem dX11_border_5 : decode cX11_border 5 = .ok (.astore 4, 2) := by decide +kernel
theorem dX11_border_7 : decode cX11_border 7 = .ok (.aload 4, 2) := by decide +kernel
theorem dX11_border_9 : decode cX11_border 9 = .ok (.ifnull 26, 3) := by decide +kernel
theorem dX11_border_35 : decode cX11_border 35 = .ok (.iconst (-1), 1) := by decide +kernel
theorem dX11_border_36 : decode cX11_border 36 = .ok (.ireturn, 1) := by decide +kernel
theorem dX11_day_0 : decode cX11_day 0 = .ok (.aload_n 0, 1) := by decide +kernel
theorem dX11_day_1 : decode cX11_day 1 = .ok (.iload_n 1, 1) := by decide +kernel
theorem dX11_day_2 : decode cX11_day 2 = .ok (.invokevirtual 120, 3) := by decide +kernel
theorem dX11_day_5 : decode cX11_day 5 = .ok (.ifCond .eq 27, 3) := by decide +kernel
theorem dX11_day_32 : decode cX11_day 32 = .ok (.iconst (-1), 1) := by decide +kernel
theorem dX11_day_33 : decode cX11_day 33 = .ok (.ireturn, 1) := by decide +kernel
theorem dX11_hang_0 : decode cX11_hang 0 = .ok (.aload_n 0, 1) := by decide +kernel
theorem dX11_hang_1 : decode cX11_hang 1 = .ok (.iload_n 1, 1) := by decide +kernel
theorem dX11_hang_2 : decode cX11_hang 2 = .ok (.invokevirtual 120, 3) := by decide +kernel
theorem dX11_hang_5 : decode cX11_hang 5 = .ok (.ifCond .eq 28, 3) := by decide +kernel
theorem dX11_hang_33 : decode cX11_hang 33 = .ok (.iconst (-1), 1) := by decide +kernel
theorem dX11_hang_34 : decode cX11_hang 34 = .ok (.ireturn, 1) := by decide +kernel
theorem dX11_image_0 : decode cX11_image 0 = .ok (.iconst 0, 1) := by decide +kernel
theorem dX11_image_1 : decode cX11_image 1 = .ok (.iload_n 1, 1) := by decide +kernel
theorem dX11_image_2 : decode cX11_image 2 = .ok (.iconst 2, 1) := by decide +kernel
theorem dX11_image_3 : decode cX11_image 3 = .ok (.invokestatic 159, 3) := by decide +kernel
theorem dX11_image_6 : decode cX11_image 6 = .ok (.ifCond .ne 5, 3) := by decide +kernel
theorem dX11_image_9 : decode cX11_image 9 = .ok (.iconst 0, 1) := by decide +kernel
theorem dX11_image_10 : decode cX11_image 10 = .ok (.ireturn, 1) := by decide +kernel
theorem dX11_image_11 : decode cX11_image 11 = .ok (.aload_n 0, 1) := by decide +kernel
theorem dX11_image_12 : decode cX11_image 12 = .ok (.getfield 44, 3) := by decide +kernel
theorem dX11_image_15 : decode cX11_image 15 = .ok (.iload_n 1, 1) := by decide +kernel
theorem dX11_image_16 : decode cX11_image 16 = .ok (.aaload, 1) := by decide +kernel
theorem dX11_image_17 : decode cX11_image 17 = .ok (.ifnonnull 16, 3) := by decide +kernel
theorem dX11_image_20 : decode cX11_image 20 = .ok (.aload_n 0, 1) := by decide +kernel
theorem dX11_image_21 : decode cX11_image 21 = .ok (.getfield 44, 3) := by decide +kernel
theorem dX11_image_24 : decode cX11_image 24 = .ok (.iload_n 1, 1) := by decide +kernel
theorem dX11_image_25 : decode cX11_image 25 = .ok (.new 37, 3) := by decide +kernel
theorem dX11_image_28 : decode cX11_image 28 = .ok (.dup, 1) := by decide +kernel
theorem dX11_image_29 : decode cX11_image 29 = .ok (.invokespecial 39, 3) := by decide +kernel
theorem dX11_image_32 : decode cX11_image 32 = .ok (.aastore, 1) := by decide +kernel
theorem dX11_image_33 : decode cX11_image 33 = .ok (.aload_n 0, 1) := by decide +kernel
theorem dX11_image_34 : decode cX11_image 34 = .ok (.getfield 44, 3) := by decide +kernel
theorem dX11_image_37 : decode cX11_image 37 = .ok (.iload_n 1, 1) := by decide +kernel
theorem dX11_image_38 : decode cX11_image 38 = .ok (.aaload, 1) := by decide +kernel
theorem dX11_image_39 : decode cX11_image 39 = .ok (.aload_n 0, 1) := by decide +kernel
theorem dX11_image_40 : decode cX11_image 40 = .ok (.getfield 40, 3) := by decide +kernel
theorem dX11_image_43 : decode cX11_image 43 = .ok (.invokevirtual 353, 3) := by decide +kernel
theorem dX11_image_46 : decode cX11_image 46 = .ok (.iconst 1, 1) := by decide +kernel
theorem dX11_image_47 : decode cX11_image 47 = .ok (.ireturn, 1) := by decide +kernel
theorem dX11_on_0 : decode cX11_on 0 = .ok (.iconst 0, 1) := by decide +kernel
theorem dX11_on_1 : decode cX11_on 1 = .ok (.iload_n 1, 1) := by decide +kernel
theorem dX11_on_2 : decode cX11_on 2 = .ok (.iconst 2, 1) := by decide +kernel
theorem dX11_on_3 : decode cX11_on 3 = .ok (.invokestatic 159, 3) := by decide +kernel
theorem dX11_on_6 : decode cX11_on 6 = .ok (.ifCond .eq 12, 3) := by decide +kernel
theorem dX11_on_9 : decode cX11_on 9 = .ok (.aload_n 0, 1) := by decide +kernel
theorem dX11_on_10 : decode cX11_on 10 = .ok (.getfield 44, 3) := by decide +kernel
theorem dX11_on_13 : decode cX11_on 13 = .ok (.iload_n 1, 1) := by decide +kernel
theorem dX11_on_14 : decode cX11_on 14 = .ok (.aaload, 1) := by decide +kernel
theorem dX11_on_15 : decode cX11_on 15 = .ok (.ifnonnull 5, 3) := by decide +kernel
theorem dX11_on_18 : decode cX11_on 18 = .ok (.iconst 0, 1) := by decide +kernel
theorem dX11_on_19 : decode cX11_on 19 = .ok (.ireturn, 1) := by decide +kernel
theorem dX11_count_0 : decode cX11_count 0 = .ok (.iload_n 1, 1) := by decide +kernel
theorem dX11_count_1 : decode cX11_count 1 = .ok (.tableswitch 78 0 5 #[39, 44, 49, 54, 62, 70], 39) := by decide +kernel
theorem dX11_count_40 : decode cX11_count 40 = .ok (.aload_n 0, 1) := by decide +kernel
theorem dX11_count_41 : decode cX11_count 41 = .ok (.getfield 88, 3) := by decide +kernel
theorem dX11_count_44 : decode cX11_count 44 = .ok (.ireturn, 1) := by decide +kernel
theorem dX11_count_45 : decode cX11_count 45 = .ok (.aload_n 0, 1) := by decide +kernel
theorem dX11_count_46 : decode cX11_count 46 = .ok (.getfield 92, 3) := by decide +kernel
theorem dX11_count_49 : decode cX11_count 49 = .ok (.ireturn, 1) := by decide +kernel
theorem dX11_count_50 : decode cX11_count 50 = .ok (.aload_n 0, 1) := by decide +kernel
theorem dX11_count_51 : decode cX11_count 51 = .ok (.getfield 95, 3) := by decide +kernel
theorem dX11_count_54 : decode cX11_count 54 = .ok (.ireturn, 1) := by decide +kernel
theorem dX11_count_55 : decode cX11_count 55 = .ok (.aload_n 0, 1) := by decide +kernel
theorem dX11_count_56 : decode cX11_count 56 = .ok (.getfield 72, 3) := by decide +kernel
theorem dX11_count_59 : decode cX11_count 59 = .ok (.getfield 357, 3) := by decide +kernel
theorem dX11_count_62 : decode cX11_count 62 = .ok (.ireturn, 1) := by decide +kernel
theorem dX11_count_63 : decode cX11_count 63 = .ok (.aload_n 0, 1) := by decide +kernel
theorem dX11_count_64 : decode cX11_count 64 = .ok (.getfield 40, 3) := by decide +kernel
theorem dX11_count_67 : decode cX11_count 67 = .ok (.getfield 360, 3) := by decide +kernel
theorem dX11_count_70 : decode cX11_count 70 = .ok (.ireturn, 1) := by decide +kernel
theorem dX11_count_71 : decode cX11_count 71 = .ok (.aload_n 0, 1) := by decide +kernel
theorem dX11_count_72 : decode cX11_count 72 = .ok (.getfield 10, 3) := by decide +kernel
theorem dX11_count_75 : decode cX11_count 75 = .ok (.getfield 106, 3) := by decide +kernel
theorem dX11_count_78 : decode cX11_count 78 = .ok (.ireturn, 1) := by decide +kernel
theorem dX11_count_79 : decode cX11_count 79 = .ok (.iconst (-1), 1) := by decide +kernel
theorem dX11_count_80 : decode cX11_count 80 = .ok (.ireturn, 1) := by decide +kernel
theorem dX11_roomAt_0 : decode cX11_roomAt 0 = .ok (.iconst 0, 1) := by decide +kernel
theorem dX11_roomAt_1 : decode cX11_roomAt 1 = .ok (.iload_n 1, 1) := by decide +kernel
theorem dX11_roomAt_2 : decode cX11_roomAt 2 = .ok (.aload_n 0, 1) := by decide +kernel
theorem dX11_roomAt_3 : decode cX11_roomAt 3 = .ok (.getfield 88, 3) := by decide +kernel
theorem dX11_roomAt_6 : decode cX11_roomAt 6 = .ok (.iconst 1, 1) := by decide +kernel
theorem dX11_roomAt_7 : decode cX11_roomAt 7 = .ok (.isub, 1) := by decide +kernel
theorem dX11_roomAt_8 : decode cX11_roomAt 8 = .ok (.invokestatic 159, 3) := by decide +kernel
theorem dX11_roomAt_11 : decode cX11_roomAt 11 = .ok (.ifCond .eq 12, 3) := by decide +kernel
theorem dX11_roomAt_23 : decode cX11_roomAt 23 = .ok (.aconst_null, 1) := by decide +kernel
theorem dX11_roomAt_24 : decode cX11_roomAt 24 = .ok (.areturn, 1) := by decide +kernel
theorem dX11_paperAt_0 : decode cX11_paperAt 0 = .ok (.iconst 0, 1) := by decide +kernel
theorem dX11_paperAt_1 : decode cX11_paperAt 1 = .ok (.iload_n 1, 1) := by decide +kernel
theorem dX11_paperAt_2 : decode cX11_paperAt 2 = .ok (.aload_n 0, 1) := by decide +kernel
theorem dX11_paperAt_3 : decode cX11_paperAt 3 = .ok (.getfield 92, 3) := by decide +kernel
theorem dX11_paperAt_6 : decode cX11_paperAt 6 = .ok (.iconst 1, 1) := by decide +kernel
theorem dX11_paperAt_7 : decode cX11_paperAt 7 = .ok (.isub, 1) := by decide +kernel
theorem dX11_paperAt_8 : decode cX11_paperAt 8 = .ok (.invokestatic 159, 3) := by decide +kernel
theorem dX11_paperAt_11 : decode cX11_paperAt 11 = .ok (.ifCond .eq 12, 3) := by decide +kernel
theorem dX11_paperAt_23 : decode cX11_paperAt 23 = .ok (.aconst_null, 1) := by decide +kernel
theorem dX11_paperAt_24 : decode cX11_paperAt 24 = .ok (.areturn, 1) := by decide +kernel
theorem dX11_lay_0 : decode cX11_lay 0 = .ok (.aload_n 0, 1) := by decide +kernel
theorem dX11_lay_1 : decode cX11_lay 1 = .ok (.iload_n 1, 1) := by decide +kernel
theorem dX11_lay_2 : decode cX11_lay 2 = .ok (.invokevirtual 116, 3) := by decide +kernel
theorem dX11_lay_5 : decode cX11_lay 5 = .ok (.astore_n 2, 1) := by decide +kernel
theorem dX11_lay_6 : decode cX11_lay 6 = .ok (.aload_n 2, 1) := by decide +kernel
theorem dX11_lay_7 : decode cX11_lay 7 = .ok (.ifnonnull 5, 3) := by decide +kernel
theorem dX11_lay_10 : decode cX11_lay 10 = .ok (.iconst 0, 1) := by decide +kernel
theorem dX11_lay_11 : decode cX11_lay 11 = .ok (.ireturn, 1) := by decide +kernel
theorem dX11_isFrom_0 : decode cX11_isFrom 0 = .ok (.iload_n 1, 1) := by decide +kernel
theorem dX11_isFrom_1 : decode cX11_isFrom 1 = .ok (.iload_n 0, 1) := by decide +kernel
theorem dX11_isFrom_2 : decode cX11_isFrom 2 = .ok (.if_icmp .lt 12, 3) := by decide +kernel
theorem dX11_isFrom_5 : decode cX11_isFrom 5 = .ok (.iload_n 1, 1) := by decide +kernel
theorem dX11_isFrom_6 : decode cX11_isFrom 6 = .ok (.iload_n 2, 1) := by decide +kernel
theorem dX11_isFrom_7 : decode cX11_isFrom 7 = .ok (.if_icmp .gt 7, 3) := by decide +kernel
theorem dX11_isFrom_10 : decode cX11_isFrom 10 = .ok (.iconst 1, 1) := by decide +kernel
theorem dX11_isFrom_11 : decode cX11_isFrom 11 = .ok (.goto 4, 3) := by decide +kernel
theorem dX11_isFrom_14 : decode cX11_isFrom 14 = .ok (.iconst 0, 1) := by decide +kernel
theorem dX11_isFrom_15 : decode cX11_isFrom 15 = .ok (.ireturn, 1) := by decide +kernel
theorem dX12_init_0 : decode cX12_init 0 = .ok (.aload_n 0, 1) := by decide +kernel
theorem dX12_init_1 : decode cX12_init 1 = .ok (.invokespecial 1, 3) := by decide +kernel
theorem dX12_init_4 : decode cX12_init 4 = .ok (.aload_n 0, 1) := by decide +kernel
theorem dX12_init_5 : decode cX12_init 5 = .ok (.bipush 7, 2) := by decide +kernel
theorem dX12_init_7 : decode cX12_init 7 = .ok (.bipush 8, 2) := by decide +kernel
theorem dX12_init_9 : decode cX12_init 9 = .ok (.multianewarray 9 2, 4) := by decide +kernel
theorem dX12_init_13 : decode cX12_init 13 = .ok (.putfield 11, 3) := by decide +kernel
theorem dX12_init_16 : decode cX12_init 16 = .ok (.aload_n 0, 1) := by decide +kernel
theorem dX12_init_17 : decode cX12_init 17 = .ok (.bipush 7, 2) := by decide +kernel
theorem dX12_init_19 : decode cX12_init 19 = .ok (.bipush 8, 2) := by decide +kernel
theorem dX12_init_21 : decode cX12_init 21 = .ok (.multianewarray 9 2, 4) := by decide +kernel
theorem dX12_init_25 : decode cX12_init 25 = .ok (.putfield 14, 3) := by decide +kernel
theorem dX12_init_28 : decode cX12_init 28 = .ok (.aload_n 0, 1) := by decide +kernel
theorem dX12_init_29 : decode cX12_init 29 = .ok (.bipush 7, 2) := by decide +kernel
theorem dX12_init_31 : decode cX12_init 31 = .ok (.bipush 8, 2) := by decide +kernel
theorem dX12_init_33 : decode cX12_init 33 = .ok (.multianewarray 9 2, 4) := by decide +kernel
theorem dX12_init_37 : decode cX12_init 37 = .ok (.putfield 17, 3) := by decide +kernel
theorem dX12_init_40 : decode cX12_init 40 = .ok (.aload_n 0, 1) := by decide +kernel
theorem dX12_init_41 : decode cX12_init 41 = .ok (.bipush 7, 2) := by decide +kernel
theorem dX12_init_43 : decode cX12_init 43 = .ok (.bipush 8, 2) := by decide +kernel
theorem dX12_init_45 : decode cX12_init 45 = .ok (.multianewarray 9 2, 4) := by decide +kernel
theorem dX12_init_49 : decode cX12_init 49 = .ok (.putfield 20, 3) := by decide +kernel
theorem dX12_init_52 : decode cX12_init 52 = .ok (.aload_n 0, 1) := by decide +kernel
theorem dX12_init_53 : decode cX12_init 53 = .ok (.bipush 7, 2) := by decide +kernel
theorem dX12_init_55 : decode cX12_init 55 = .ok (.bipush 8, 2) := by decide +kernel
theorem dX12_init_57 : decode cX12_init 57 = .ok (.multianewarray 9 2, 4) := by decide +kernel
theorem dX12_init_61 : decode cX12_init 61 = .ok (.putfield 23, 3) := by decide +kernel
theorem dX12_init_64 : decode cX12_init 64 = .ok (.aload_n 0, 1) := by decide +kernel
theorem dX12_init_65 : decode cX12_init 65 = .ok (.bipush 7, 2) := by decide +kernel
theorem dX12_init_67 : decode cX12_init 67 = .ok (.bipush 8, 2) := by decide +kernel
theorem dX12_init_69 : decode cX12_init 69 = .ok (.multianewarray 9 2, 4) := by decide +kernel
theorem dX12_init_73 : decode cX12_init 73 = .ok (.putfield 26, 3) := by decide +kernel
theorem dX12_init_76 : decode cX12_init 76 = .ok (.aload_n 0, 1) := by decide +kernel
theorem dX12_init_77 : decode cX12_init 77 = .ok (.bipush 7, 2) := by decide +kernel
theorem dX12_init_79 : decode cX12_init 79 = .ok (.bipush 8, 2) := by decide +kernel
theorem dX12_init_81 : decode cX12_init 81 = .ok (.multianewarray 9 2, 4) := by decide +kernel
theorem dX12_init_85 : decode cX12_init 85 = .ok (.putfield 29, 3) := by decide +kernel
theorem dX12_init_88 : decode cX12_init 88 = .ok (.aload_n 0, 1) := by decide +kernel
theorem dX12_init_89 : decode cX12_init 89 = .ok (.bipush 7, 2) := by decide +kernel
theorem dX12_init_91 : decode cX12_init 91 = .ok (.bipush 8, 2) := by decide +kernel
theorem dX12_init_93 : decode cX12_init 93 = .ok (.multianewarray 9 2, 4) := by decide +kernel
theorem dX12_init_97 : decode cX12_init 97 = .ok (.putfield 32, 3) := by decide +kernel
theorem dX12_init_100 : decode cX12_init 100 = .ok (.aload_n 0, 1) := by decide +kernel
theorem dX12_init_101 : decode cX12_init 101 = .ok (.bipush 7, 2) := by decide +kernel
theorem dX12_init_103 : decode cX12_init 103 = .ok (.bipush 8, 2) := by decide +kernel
theorem dX12_init_105 : decode cX12_init 105 = .ok (.multianewarray 9 2, 4) := by decide +kernel
theorem dX12_init_109 : decode cX12_init 109 = .ok (.putfield 35, 3) := by decide +kernel
theorem dX12_init_112 : decode cX12_init 112 = .ok (.aload_n 0, 1) := by decide +kernel
theorem dX12_init_113 : decode cX12_init 113 = .ok (.bipush 7, 2) := by decide +kernel
theorem dX12_init_115 : decode cX12_init 115 = .ok (.bipush 8, 2) := by decide +kernel
theorem dX12_init_117 : decode cX12_init 117 = .ok (.multianewarray 9 2, 4) := by decide +kernel
theorem dX12_init_121 : decode cX12_init 121 = .ok (.putfield 38, 3) := by decide +kernel
theorem dX12_init_124 : decode cX12_init 124 = .ok (.aload_n 0, 1) := by decide +kernel
theorem dX12_init_125 : decode cX12_init 125 = .ok (.bipush 7, 2) := by decide +kernel
theorem dX12_init_127 : decode cX12_init 127 = .ok (.iconst 4, 1) := by decide +kernel
theorem dX12_init_128 : decode cX12_init 128 = .ok (.multianewarray 9 2, 4) := by decide +kernel
theorem dX12_init_132 : decode cX12_init 132 = .ok (.putfield 41, 3) := by decide +kernel
theorem dX12_init_135 : decode cX12_init 135 = .ok (.aload_n 0, 1) := by decide +kernel
theorem dX12_init_136 : decode cX12_init 136 = .ok (.bipush 7, 2) := by decide +kernel
theorem dX12_init_138 : decode cX12_init 138 = .ok (.iconst 4, 1) := by decide +kernel
theorem dX12_init_139 : decode cX12_init 139 = .ok (.multianewarray 9 2, 4) := by decide +kernel
theorem dX12_init_143 : decode cX12_init 143 = .ok (.putfield 44, 3) := by decide +kernel
theorem dX12_init_146 : decode cX12_init 146 = .ok (.aload_n 0, 1) := by decide +kernel
theorem dX12_init_147 : decode cX12_init 147 = .ok (.bipush 7, 2) := by decide +kernel
theorem dX12_init_149 : decode cX12_init 149 = .ok (.iconst 4, 1) := by decide +kernel
theorem dX12_init_150 : decode cX12_init 150 = .ok (.multianewarray 9 2, 4) := by decide +kernel
theorem dX12_init_154 : decode cX12_init 154 = .ok (.putfield 47, 3) := by decide +kernel
theorem dX12_init_157 : decode cX12_init 157 = .ok (.aload_n 0, 1) := by decide +kernel
theorem dX12_init_158 : decode cX12_init 158 = .ok (.bipush 7, 2) := by decide +kernel
theorem dX12_init_160 : decode cX12_init 160 = .ok (.newarray .int, 2) := by decide +kernel
theorem dX12_init_162 : decode cX12_init 162 = .ok (.putfield 50, 3) := by decide +kernel
theorem dX12_init_165 : decode cX12_init 165 = .ok (.aload_n 0, 1) := by decide +kernel
theorem dX12_init_166 : decode cX12_init 166 = .ok (.bipush 7, 2) := by decide +kernel
theorem dX12_init_168 : decode cX12_init 168 = .ok (.newarray .int, 2) := by decide +kernel
theorem dX12_init_170 : decode cX12_init 170 = .ok (.putfield 54, 3) := by decide +kernel
theorem dX12_init_173 : decode cX12_init 173 = .ok (.aload_n 0, 1) := by decide +kernel
theorem dX12_init_174 : decode cX12_init 174 = .ok (.bipush 7, 2) := by decide +kernel
theorem dX12_init_176 : decode cX12_init 176 = .ok (.newarray .int, 2) := by decide +kernel
theorem dX12_init_178 : decode cX12_init 178 = .ok (.putfield 57, 3) := by decide +kernel
theorem dX12_init_181 : decode cX12_init 181 = .ok (.aload_n 0, 1) := by decide +kernel
theorem dX12_init_182 : decode cX12_init 182 = .ok (.bipush 7, 2) := by decide +kernel
theorem dX12_init_184 : decode cX12_init 184 = .ok (.newarray .int, 2) := by decide +kernel
theorem dX12_init_186 : decode cX12_init 186 = .ok (.putfield 60, 3) := by decide +kernel
theorem dX12_init_189 : decode cX12_init 189 = .ok (.aload_n 0, 1) := by decide +kernel
theorem dX12_init_190 : decode cX12_init 190 = .ok (.bipush 7, 2) := by decide +kernel
theorem dX12_init_192 : decode cX12_init 192 = .ok (.newarray .int, 2) := by decide +kernel
theorem dX12_init_194 : decode cX12_init 194 = .ok (.putfield 63, 3) := by decide +kernel
theorem dX12_init_197 : decode cX12_init 197 = .ok (.aload_n 0, 1) := by decide +kernel
theorem dX12_init_198 : decode cX12_init 198 = .ok (.sipush 400, 3) := by decide +kernel
theorem dX12_init_201 : decode cX12_init 201 = .ok (.newarray .byte, 2) := by decide +kernel
theorem dX12_init_203 : decode cX12_init 203 = .ok (.putfield 66, 3) := by decide +kernel
theorem dX12_init_206 : decode cX12_init 206 = .ok (.aload_n 0, 1) := by decide +kernel
theorem dX12_init_207 : decode cX12_init 207 = .ok (.iconst 5, 1) := by decide +kernel
theorem dX12_init_208 : decode cX12_init 208 = .ok (.anewarray 70, 3) := by decide +kernel
theorem dX12_init_211 : decode cX12_init 211 = .ok (.dup, 1) := by decide +kernel
theorem dX12_init_212 : decode cX12_init 212 = .ok (.iconst 0, 1) := by decide +kernel
theorem dX12_init_213 : decode cX12_init 213 = .ok (.ldc 72, 2) := by decide +kernel
theorem dX12_init_215 : decode cX12_init 215 = .ok (.aastore, 1) := by decide +kernel
theorem dX12_init_216 : decode cX12_init 216 = .ok (.dup, 1) := by decide +kernel
theorem dX12_init_217 : decode cX12_init 217 = .ok (.iconst 1, 1) := by decide +kernel
theorem dX12_init_218 : decode cX12_init 218 = .ok (.ldc 74, 2) := by decide +kernel
theorem dX12_init_220 : decode cX12_init 220 = .ok (.aastore, 1) := by decide +kernel
theorem dX12_init_221 : decode cX12_init 221 = .ok (.dup, 1) := by decide +kernel
theorem dX12_init_222 : decode cX12_init 222 = .ok (.iconst 2, 1) := by decide +kernel
theorem dX12_init_223 : decode cX12_init 223 = .ok (.ldc 76, 2) := by decide +kernel
theorem dX12_init_225 : decode cX12_init 225 = .ok (.aastore, 1) := by decide +kernel
theorem dX12_init_226 : decode cX12_init 226 = .ok (.dup, 1) := by decide +kernel
theorem dX12_init_227 : decode cX12_init 227 = .ok (.iconst 3, 1) := by decide +kernel
theorem dX12_init_228 : decode cX12_init 228 = .ok (.ldc 78, 2) := by decide +kernel
theorem dX12_init_230 : decode cX12_init 230 = .ok (.aastore, 1) := by decide +kernel
theorem dX12_init_231 : decode cX12_init 231 = .ok (.dup, 1) := by decide +kernel
theorem dX12_init_232 : decode cX12_init 232 = .ok (.iconst 4, 1) := by decide +kernel
theorem dX12_init_233 : decode cX12_init 233 = .ok (.ldc 79, 2) := by decide +kernel
theorem dX12_init_235 : decode cX12_init 235 = .ok (.aastore, 1) := by decide +kernel
theorem dX12_init_236 : decode cX12_init 236 = .ok (.putfield 81, 3) := by decide +kernel
theorem dX12_init_239 : decode cX12_init 239 = .ok (.aload_n 0, 1) := by decide +kernel
theorem dX12_init_240 : decode cX12_init 240 = .ok (.iconst 4, 1) := by decide +kernel
theorem dX12_init_241 : decode cX12_init 241 = .ok (.newarray .int, 2) := by decide +kernel
theorem dX12_init_243 : decode cX12_init 243 = .ok (.putfield 85, 3) := by decide +kernel
theorem dX12_init_246 : decode cX12_init 246 = .ok (.aload_n 0, 1) := by decide +kernel
theorem dX12_init_247 : decode cX12_init 247 = .ok (.iconst 4, 1) := by decide +kernel
theorem dX12_init_248 : decode cX12_init 248 = .ok (.newarray .int, 2) := by decide +kernel
theorem dX12_init_250 : decode cX12_init 250 = .ok (.putfield 88, 3) := by decide +kernel
theorem dX12_init_253 : decode cX12_init 253 = .ok (.aload_n 0, 1) := by decide +kernel
theorem dX12_init_254 : decode cX12_init 254 = .ok (.iconst 4, 1) := by decide +kernel
theorem dX12_init_255 : decode cX12_init 255 = .ok (.newarray .int, 2) := by decide +kernel
theorem dX12_init_257 : decode cX12_init 257 = .ok (.putfield 91, 3) := by decide +kernel
theorem dX12_init_260 : decode cX12_init 260 = .ok (.aload_n 0, 1) := by decide +kernel
theorem dX12_init_261 : decode cX12_init 261 = .ok (.iconst 4, 1) := by decide +kernel
theorem dX12_init_262 : decode cX12_init 262 = .ok (.newarray .int, 2) := by decide +kernel
theorem dX12_init_264 : decode cX12_init 264 = .ok (.putfield 94, 3) := by decide +kernel
theorem dX12_init_267 : decode cX12_init 267 = .ok (.aload_n 0, 1) := by decide +kernel
theorem dX12_init_268 : decode cX12_init 268 = .ok (.iconst 4, 1) := by decide +kernel
theorem dX12_init_269 : decode cX12_init 269 = .ok (.newarray .int, 2) := by decide +kernel
theorem dX12_init_271 : decode cX12_init 271 = .ok (.putfield 97, 3) := by decide +kernel
theorem dX12_init_274 : decode cX12_init 274 = .ok (.aload_n 0, 1) := by decide +kernel
theorem dX12_init_275 : decode cX12_init 275 = .ok (.iconst 4, 1) := by decide +kernel
theorem dX12_init_276 : decode cX12_init 276 = .ok (.newarray .int, 2) := by decide +kernel
theorem dX12_init_278 : decode cX12_init 278 = .ok (.putfield 100, 3) := by decide +kernel
theorem dX12_init_281 : decode cX12_init 281 = .ok (.aload_n 0, 1) := by decide +kernel
theorem dX12_init_282 : decode cX12_init 282 = .ok (.iconst 5, 1) := by decide +kernel
theorem dX12_init_283 : decode cX12_init 283 = .ok (.putfield 103, 3) := by decide +kernel
theorem dX12_init_286 : decode cX12_init 286 = .ok (.aload_n 0, 1) := by decide +kernel
theorem dX12_init_287 : decode cX12_init 287 = .ok (.bipush 6, 2) := by decide +kernel
theorem dX12_init_289 : decode cX12_init 289 = .ok (.newarray .int, 2) := by decide +kernel
theorem dX12_init_291 : decode cX12_init 291 = .ok (.putfield 107, 3) := by decide +kernel
theorem dX12_init_294 : decode cX12_init 294 = .ok (.aload_n 0, 1) := by decide +kernel
theorem dX12_init_295 : decode cX12_init 295 = .ok (.bipush 6, 2) := by decide +kernel
theorem dX12_init_297 : decode cX12_init 297 = .ok (.newarray .int, 2) := by decide +kernel
theorem dX12_init_299 : decode cX12_init 299 = .ok (.putfield 110, 3) := by decide +kernel
theorem dX12_init_302 : decode cX12_init 302 = .ok (.aload_n 0, 1) := by decide +kernel
theorem dX12_init_303 : decode cX12_init 303 = .ok (.bipush 6, 2) := by decide +kernel
theorem dX12_init_305 : decode cX12_init 305 = .ok (.newarray .int, 2) := by decide +kernel
theorem dX12_init_307 : decode cX12_init 307 = .ok (.putfield 113, 3) := by decide +kernel
theorem dX12_init_310 : decode cX12_init 310 = .ok (.aload_n 0, 1) := by decide +kernel
theorem dX12_init_311 : decode cX12_init 311 = .ok (.bipush 6, 2) := by decide +kernel
theorem dX12_init_313 : decode cX12_init 313 = .ok (.newarray .int, 2) := by decide +kernel
theorem dX12_init_315 : decode cX12_init 315 = .ok (.putfield 116, 3) := by decide +kernel
theorem dX12_init_318 : decode cX12_init 318 = .ok (.aload_n 0, 1) := by decide +kernel
theorem dX12_init_319 : decode cX12_init 319 = .ok (.sipush 251, 3) := by decide +kernel
theorem dX12_init_322 : decode cX12_init 322 = .ok (.newarray .int, 2) := by decide +kernel
theorem dX12_init_324 : decode cX12_init 324 = .ok (.putfield 119, 3) := by decide +kernel
theorem dX12_init_327 : decode cX12_init 327 = .ok (.aload_n 0, 1) := by decide +kernel
theorem dX12_init_328 : decode cX12_init 328 = .ok (.sipush 251, 3) := by decide +kernel
theorem dX12_init_331 : decode cX12_init 331 = .ok (.newarray .int, 2) := by decide +kernel
theorem dX12_init_333 : decode cX12_init 333 = .ok (.putfield 122, 3) := by decide +kernel
theorem dX12_init_336 : decode cX12_init 336 = .ok (.aload_n 0, 1) := by decide +kernel
theorem dX12_init_337 : decode cX12_init 337 = .ok (.sipush 251, 3) := by decide +kernel
theorem dX12_init_340 : decode cX12_init 340 = .ok (.newarray .int, 2) := by decide +kernel
theorem dX12_init_342 : decode cX12_init 342 = .ok (.putfield 125, 3) := by decide +kernel
theorem dX12_init_345 : decode cX12_init 345 = .ok (.aload_n 0, 1) := by decide +kernel
theorem dX12_init_346 : decode cX12_init 346 = .ok (.sipush 251, 3) := by decide +kernel
theorem dX12_init_349 : decode cX12_init 349 = .ok (.newarray .int, 2) := by decide +kernel
theorem dX12_init_351 : decode cX12_init 351 = .ok (.putfield 128, 3) := by decide +kernel
theorem dX12_init_354 : decode cX12_init 354 = .ok (.aload_n 0, 1) := by decide +kernel
theorem dX12_init_355 : decode cX12_init 355 = .ok (.sipush 500, 3) := by decide +kernel
theorem dX12_init_358 : decode cX12_init 358 = .ok (.newarray .int, 2) := by decide +kernel
theorem dX12_init_360 : decode cX12_init 360 = .ok (.putfield 131, 3) := by decide +kernel
theorem dX12_init_363 : decode cX12_init 363 = .ok (.aload_n 0, 1) := by decide +kernel
theorem dX12_init_364 : decode cX12_init 364 = .ok (.sipush 500, 3) := by decide +kernel
theorem dX12_init_367 : decode cX12_init 367 = .ok (.newarray .int, 2) := by decide +kernel
theorem dX12_init_369 : decode cX12_init 369 = .ok (.putfield 134, 3) := by decide +kernel
theorem dX12_init_372 : decode cX12_init 372 = .ok (.aload_n 0, 1) := by decide +kernel
theorem dX12_init_373 : decode cX12_init 373 = .ok (.sipush 500, 3) := by decide +kernel
theorem dX12_init_376 : decode cX12_init 376 = .ok (.newarray .int, 2) := by decide +kernel
theorem dX12_init_378 : decode cX12_init 378 = .ok (.putfield 137, 3) := by decide +kernel
theorem dX12_init_381 : decode cX12_init 381 = .ok (.aload_n 0, 1) := by decide +kernel
theorem dX12_init_382 : decode cX12_init 382 = .ok (.sipush 500, 3) := by decide +kernel
theorem dX12_init_385 : decode cX12_init 385 = .ok (.newarray .int, 2) := by decide +kernel
theorem dX12_init_387 : decode cX12_init 387 = .ok (.putfield 140, 3) := by decide +kernel
theorem dX12_init_390 : decode cX12_init 390 = .ok (.aload_n 0, 1) := by decide +kernel
theorem dX12_init_391 : decode cX12_init 391 = .ok (.sipush 500, 3) := by decide +kernel
theorem dX12_init_394 : decode cX12_init 394 = .ok (.newarray .int, 2) := by decide +kernel
theorem dX12_init_396 : decode cX12_init 396 = .ok (.putfield 143, 3) := by decide +kernel
theorem dX12_init_399 : decode cX12_init 399 = .ok (.aload_n 0, 1) := by decide +kernel
theorem dX12_init_400 : decode cX12_init 400 = .ok (.sipush 3000, 3) := by decide +kernel
theorem dX12_init_403 : decode cX12_init 403 = .ok (.newarray .int, 2) := by decide +kernel
theorem dX12_init_405 : decode cX12_init 405 = .ok (.putfield 146, 3) := by decide +kernel
theorem dX12_init_408 : decode cX12_init 408 = .ok (.aload_n 0, 1) := by decide +kernel
theorem dX12_init_409 : decode cX12_init 409 = .ok (.sipush 4096, 3) := by decide +kernel
theorem dX12_init_412 : decode cX12_init 412 = .ok (.newarray .int, 2) := by decide +kernel
theorem dX12_init_414 : decode cX12_init 414 = .ok (.putfield 149, 3) := by decide +kernel
theorem dX12_init_417 : decode cX12_init 417 = .ok (.aload_n 0, 1) := by decide +kernel
theorem dX12_init_418 : decode cX12_init 418 = .ok (.bipush 8, 2) := by decide +kernel
theorem dX12_init_420 : decode cX12_init 420 = .ok (.newarray .int, 2) := by decide +kernel
theorem dX12_init_422 : decode cX12_init 422 = .ok (.putfield 152, 3) := by decide +kernel
theorem dX12_init_425 : decode cX12_init 425 = .ok (.aload_n 0, 1) := by decide +kernel
theorem dX12_init_426 : decode cX12_init 426 = .ok (.iconst 4, 1) := by decide +kernel
theorem dX12_init_427 : decode cX12_init 427 = .ok (.newarray .int, 2) := by decide +kernel
theorem dX12_init_429 : decode cX12_init 429 = .ok (.putfield 155, 3) := by decide +kernel
theorem dX12_init_432 : decode cX12_init 432 = .ok (.aload_n 0, 1) := by decide +kernel
theorem dX12_init_433 : decode cX12_init 433 = .ok (.iconst 4, 1) := by decide +kernel
theorem dX12_init_434 : decode cX12_init 434 = .ok (.newarray .int, 2) := by decide +kernel
theorem dX12_init_436 : decode cX12_init 436 = .ok (.putfield 158, 3) := by decide +kernel
theorem dX12_init_439 : decode cX12_init 439 = .ok (.aload_n 0, 1) := by decide +kernel
theorem dX12_init_440 : decode cX12_init 440 = .ok (.bipush 8, 2) := by decide +kernel
theorem dX12_init_442 : decode cX12_init 442 = .ok (.newarray .int, 2) := by decide +kernel
theorem dX12_init_444 : decode cX12_init 444 = .ok (.putfield 161, 3) := by decide +kernel
theorem dX12_init_447 : decode cX12_init 447 = .ok (.aload_n 0, 1) := by decide +kernel
theorem dX12_init_448 : decode cX12_init 448 = .ok (.bipush 8, 2) := by decide +kernel
end
section
theorem dX12_init_450 : decode cX12_init 450 = .ok (.newarray .int, 2) := by decide +kernel
theorem dX12_init_452 : decode cX12_init 452 = .ok (.putfield 164, 3) := by decide +kernel
theorem dX12_init_455 : decode cX12_init 455 = .ok (.aload_n 0, 1) := by decide +kernel
theorem dX12_init_456 : decode cX12_init 456 = .ok (.bipush 8, 2) := by decide +kernel
theorem dX12_init_458 : decode cX12_init 458 = .ok (.newarray .int, 2) := by decide +kernel
theorem dX12_init_460 : decode cX12_init 460 = .ok (.putfield 167, 3) := by decide +kernel
theorem dX12_init_463 : decode cX12_init 463 = .ok (.aload_n 0, 1) := by decide +kernel
theorem dX12_init_464 : decode cX12_init 464 = .ok (.iconst 4, 1) := by decide +kernel
theorem dX12_init_465 : decode cX12_init 465 = .ok (.newarray .int, 2) := by decide +kernel
theorem dX12_init_467 : decode cX12_init 467 = .ok (.putfield 170, 3) := by decide +kernel
theorem dX12_init_470 : decode cX12_init 470 = .ok (.aload_n 0, 1) := by decide +kernel
theorem dX12_init_471 : decode cX12_init 471 = .ok (.bipush 10, 2) := by decide +kernel
theorem dX12_init_473 : decode cX12_init 473 = .ok (.newarray .int, 2) := by decide +kernel
theorem dX12_init_475 : decode cX12_init 475 = .ok (.putfield 173, 3) := by decide +kernel
theorem dX12_init_478 : decode cX12_init 478 = .ok (.aload_n 0, 1) := by decide +kernel
theorem dX12_init_479 : decode cX12_init 479 = .ok (.bipush 10, 2) := by decide +kernel
theorem dX12_init_481 : decode cX12_init 481 = .ok (.newarray .int, 2) := by decide +kernel
theorem dX12_init_483 : decode cX12_init 483 = .ok (.putfield 176, 3) := by decide +kernel
theorem dX12_init_486 : decode cX12_init 486 = .ok (.aload_n 0, 1) := by decide +kernel
theorem dX12_init_487 : decode cX12_init 487 = .ok (.bipush 10, 2) := by decide +kernel
theorem dX12_init_489 : decode cX12_init 489 = .ok (.newarray .int, 2) := by decide +kernel
theorem dX12_init_491 : decode cX12_init 491 = .ok (.putfield 179, 3) := by decide +kernel
theorem dX12_init_494 : decode cX12_init 494 = .ok (.aload_n 0, 1) := by decide +kernel
theorem dX12_init_495 : decode cX12_init 495 = .ok (.iconst 3, 1) := by decide +kernel
theorem dX12_init_496 : decode cX12_init 496 = .ok (.bipush 24, 2) := by decide +kernel
theorem dX12_init_498 : decode cX12_init 498 = .ok (.multianewarray 9 2, 4) := by decide +kernel
theorem dX12_init_502 : decode cX12_init 502 = .ok (.putfield 182, 3) := by decide +kernel
theorem dX12_init_505 : decode cX12_init 505 = .ok (.aload_n 0, 1) := by decide +kernel
theorem dX12_init_506 : decode cX12_init 506 = .ok (.iconst 3, 1) := by decide +kernel
theorem dX12_init_507 : decode cX12_init 507 = .ok (.bipush 30, 2) := by decide +kernel
theorem dX12_init_509 : decode cX12_init 509 = .ok (.multianewarray 9 2, 4) := by decide +kernel
theorem dX12_init_513 : decode cX12_init 513 = .ok (.putfield 185, 3) := by decide +kernel
theorem dX12_init_516 : decode cX12_init 516 = .ok (.aload_n 0, 1) := by decide +kernel
theorem dX12_init_517 : decode cX12_init 517 = .ok (.iconst 3, 1) := by decide +kernel
theorem dX12_init_518 : decode cX12_init 518 = .ok (.newarray .int, 2) := by decide +kernel
theorem dX12_init_520 : decode cX12_init 520 = .ok (.putfield 188, 3) := by decide +kernel
theorem dX12_init_523 : decode cX12_init 523 = .ok (.aload_n 0, 1) := by decide +kernel
theorem dX12_init_524 : decode cX12_init 524 = .ok (.iconst 3, 1) := by decide +kernel
theorem dX12_init_525 : decode cX12_init 525 = .ok (.newarray .int, 2) := by decide +kernel
theorem dX12_init_527 : decode cX12_init 527 = .ok (.putfield 191, 3) := by decide +kernel
theorem dX12_init_530 : decode cX12_init 530 = .ok (.aload_n 0, 1) := by decide +kernel
theorem dX12_init_531 : decode cX12_init 531 = .ok (.iconst 3, 1) := by decide +kernel
theorem dX12_init_532 : decode cX12_init 532 = .ok (.newarray .boolean, 2) := by decide +kernel
theorem dX12_init_534 : decode cX12_init 534 = .ok (.putfield 194, 3) := by decide +kernel
theorem dX12_init_537 : decode cX12_init 537 = .ok (.return_, 1) := by decide +kernel
theorem dX12_in_0 : decode cX12_in 0 = .ok (.lload_n 0, 1) := by decide +kernel
theorem dX12_in_1 : decode cX12_in 1 = .ok (.lload_n 2, 1) := by decide +kernel
theorem dX12_in_2 : decode cX12_in 2 = .ok (.lcmp, 1) := by decide +kernel
theorem dX12_in_3 : decode cX12_in 3 = .ok (.ifCond .lt 14, 3) := by decide +kernel
theorem dX12_in_6 : decode cX12_in 6 = .ok (.lload_n 0, 1) := by decide +kernel
theorem dX12_in_7 : decode cX12_in 7 = .ok (.lload 4, 2) := by decide +kernel
theorem dX12_in_9 : decode cX12_in 9 = .ok (.lcmp, 1) := by decide +kernel
theorem dX12_in_10 : decode cX12_in 10 = .ok (.ifCond .gt 7, 3) := by decide +kernel
theorem dX12_in_13 : decode cX12_in 13 = .ok (.iconst 1, 1) := by decide +kernel
theorem dX12_in_14 : decode cX12_in 14 = .ok (.goto 4, 3) := by decide +kernel
theorem dX12_in_17 : decode cX12_in 17 = .ok (.iconst 0, 1) := by decide +kernel
theorem dX12_in_18 : decode cX12_in 18 = .ok (.ireturn, 1) := by decide +kernel
theorem dX12_feeds_0 : decode cX12_feeds 0 = .ok (.iconst 3, 1) := by decide +kernel
theorem dX12_feeds_1 : decode cX12_feeds 1 = .ok (.istore_n 2, 1) := by decide +kernel
theorem dX12_feeds_2 : decode cX12_feeds 2 = .ok (.iload_n 2, 1) := by decide +kernel
theorem dX12_feeds_3 : decode cX12_feeds 3 = .ok (.ifCond .lt 35, 3) := by decide +kernel
theorem dX12_feeds_6 : decode cX12_feeds 6 = .ok (.aload_n 0, 1) := by decide +kernel
theorem dX12_feeds_7 : decode cX12_feeds 7 = .ok (.getfield 66, 3) := by decide +kernel
theorem dX12_feeds_10 : decode cX12_feeds 10 = .ok (.aload_n 0, 1) := by decide +kernel
theorem dX12_feeds_11 : decode cX12_feeds 11 = .ok (.getfield 198, 3) := by decide +kernel
theorem dX12_feeds_14 : decode cX12_feeds 14 = .ok (.iload_n 1, 1) := by decide +kernel
theorem dX12_feeds_15 : decode cX12_feeds 15 = .ok (.bipush 8, 2) := by decide +kernel
theorem dX12_feeds_17 : decode cX12_feeds 17 = .ok (.iload_n 2, 1) := by decide +kernel
theorem dX12_feeds_18 : decode cX12_feeds 18 = .ok (.imul, 1) := by decide +kernel
theorem dX12_feeds_19 : decode cX12_feeds 19 = .ok (.iushr, 1) := by decide +kernel
theorem dX12_feeds_20 : decode cX12_feeds 20 = .ok (.i2b, 1) := by decide +kernel
theorem dX12_feeds_21 : decode cX12_feeds 21 = .ok (.bastore, 1) := by decide +kernel
theorem dX12_feeds_22 : decode cX12_feeds 22 = .ok (.aload_n 0, 1) := by decide +kernel
theorem dX12_feeds_23 : decode cX12_feeds 23 = .ok (.dup, 1) := by decide +kernel
theorem dX12_feeds_24 : decode cX12_feeds 24 = .ok (.getfield 198, 3) := by decide +kernel
theorem dX12_feeds_27 : decode cX12_feeds 27 = .ok (.iconst 1, 1) := by decide +kernel
theorem dX12_feeds_28 : decode cX12_feeds 28 = .ok (.iadd, 1) := by decide +kernel
theorem dX12_feeds_29 : decode cX12_feeds 29 = .ok (.putfield 198, 3) := by decide +kernel
theorem dX12_feeds_32 : decode cX12_feeds 32 = .ok (.iinc 2 (-1), 3) := by decide +kernel
theorem dX12_feeds_35 : decode cX12_feeds 35 = .ok (.goto (-33), 3) := by decide +kernel
theorem dX12_feeds_38 : decode cX12_feeds 38 = .ok (.return_, 1) := by decide +kernel
theorem dX12_feed_0 : decode cX12_feed 0 = .ok (.aload_n 0, 1) := by decide +kernel
theorem dX12_feed_1 : decode cX12_feed 1 = .ok (.getfield 198, 3) := by decide +kernel
theorem dX12_feed_4 : decode cX12_feed 4 = .ok (.bipush 20, 2) := by decide +kernel
theorem dX12_feed_6 : decode cX12_feed 6 = .ok (.iadd, 1) := by decide +kernel
theorem dX12_feed_7 : decode cX12_feed 7 = .ok (.sipush 400, 3) := by decide +kernel
theorem dX12_feed_10 : decode cX12_feed 10 = .ok (.if_icmp .le 5, 3) := by decide +kernel
theorem dX12_feed_15 : decode cX12_feed 15 = .ok (.aload_n 0, 1) := by decide +kernel
theorem dX12_feed_16 : decode cX12_feed 16 = .ok (.iload_n 1, 1) := by decide +kernel
theorem dX12_feed_17 : decode cX12_feed 17 = .ok (.invokevirtual 201, 3) := by decide +kernel
theorem dX12_feed_20 : decode cX12_feed 20 = .ok (.aload_n 0, 1) := by decide +kernel
theorem dX12_feed_21 : decode cX12_feed 21 = .ok (.iload_n 2, 1) := by decide +kernel
theorem dX12_feed_22 : decode cX12_feed 22 = .ok (.invokevirtual 201, 3) := by decide +kernel
theorem dX12_feed_25 : decode cX12_feed 25 = .ok (.aload_n 0, 1) := by decide +kernel
theorem dX12_feed_26 : decode cX12_feed 26 = .ok (.iload_n 3, 1) := by decide +kernel
theorem dX12_feed_27 : decode cX12_feed 27 = .ok (.invokevirtual 201, 3) := by decide +kernel
theorem dX12_feed_30 : decode cX12_feed 30 = .ok (.aload_n 0, 1) := by decide +kernel
theorem dX12_feed_31 : decode cX12_feed 31 = .ok (.iload 4, 2) := by decide +kernel
theorem dX12_feed_33 : decode cX12_feed 33 = .ok (.invokevirtual 201, 3) := by decide +kernel
theorem dX12_feed_36 : decode cX12_feed 36 = .ok (.aload_n 0, 1) := by decide +kernel
theorem dX12_feed_37 : decode cX12_feed 37 = .ok (.iload 5, 2) := by decide +kernel
theorem dX12_feed_39 : decode cX12_feed 39 = .ok (.invokevirtual 201, 3) := by decide +kernel
theorem dX12_feed_42 : decode cX12_feed 42 = .ok (.aload_n 0, 1) := by decide +kernel
theorem dX12_feed_43 : decode cX12_feed 43 = .ok (.getfield 198, 3) := by decide +kernel
theorem dX12_feed_46 : decode cX12_feed 46 = .ok (.ireturn, 1) := by decide +kernel
theorem dX12_end_0 : decode cX12_end 0 = .ok (.iload_n 1, 1) := by decide +kernel
theorem dX12_end_1 : decode cX12_end 1 = .ok (.i2l, 1) := by decide +kernel
theorem dX12_end_2 : decode cX12_end 2 = .ok (.lconst 0, 1) := by decide +kernel
theorem dX12_end_3 : decode cX12_end 3 = .ok (.aload_n 0, 1) := by decide +kernel
theorem dX12_end_4 : decode cX12_end 4 = .ok (.getfield 198, 3) := by decide +kernel
theorem dX12_end_7 : decode cX12_end 7 = .ok (.i2l, 1) := by decide +kernel
theorem dX12_end_8 : decode cX12_end 8 = .ok (.invokestatic 205, 3) := by decide +kernel
theorem dX12_end_11 : decode cX12_end 11 = .ok (.ifCond .ne 5, 3) := by decide +kernel
theorem dX12_end_14 : decode cX12_end 14 = .ok (.iconst 0, 1) := by decide +kernel
theorem dX12_end_15 : decode cX12_end 15 = .ok (.ireturn, 1) := by decide +kernel
theorem dX12_end_16 : decode cX12_end 16 = .ok (.aload_n 0, 1) := by decide +kernel
theorem dX12_end_17 : decode cX12_end 17 = .ok (.iload_n 1, 1) := by decide +kernel
theorem dX12_end_18 : decode cX12_end 18 = .ok (.putfield 198, 3) := by decide +kernel
theorem dX12_end_21 : decode cX12_end 21 = .ok (.iconst 1, 1) := by decide +kernel
theorem dX12_end_22 : decode cX12_end 22 = .ok (.ireturn, 1) := by decide +kernel
theorem dX12_between_0 : decode cX12_between 0 = .ok (.iload_n 1, 1) := by decide +kernel
theorem dX12_between_1 : decode cX12_between 1 = .ok (.aload_n 0, 1) := by decide +kernel
theorem dX12_between_2 : decode cX12_between 2 = .ok (.getfield 198, 3) := by decide +kernel
theorem dX12_between_5 : decode cX12_between 5 = .ok (.if_icmp .ge 27, 3) := by decide +kernel
theorem dX12_between_32 : decode cX12_between 32 = .ok (.iconst 0, 1) := by decide +kernel
theorem dX12_between_33 : decode cX12_between 33 = .ok (.ireturn, 1) := by decide +kernel
theorem dX12_next_0 : decode cX12_next 0 = .ok (.aload_n 0, 1) := by decide +kernel
theorem dX12_next_1 : decode cX12_next 1 = .ok (.aload_n 0, 1) := by decide +kernel
theorem dX12_next_2 : decode cX12_next 2 = .ok (.getfield 209, 3) := by decide +kernel
theorem dX12_next_5 : decode cX12_next 5 = .ok (.putfield 212, 3) := by decide +kernel
theorem dX12_next_8 : decode cX12_next 8 = .ok (.aload_n 0, 1) := by decide +kernel
theorem dX12_next_9 : decode cX12_next 9 = .ok (.getfield 212, 3) := by decide +kernel
theorem dX12_next_12 : decode cX12_next 12 = .ok (.aload_n 0, 1) := by decide +kernel
theorem dX12_next_13 : decode cX12_next 13 = .ok (.getfield 198, 3) := by decide +kernel
theorem dX12_next_16 : decode cX12_next 16 = .ok (.if_icmp .ge 44, 3) := by decide +kernel
theorem dX12_next_60 : decode cX12_next 60 = .ok (.aload_n 0, 1) := by decide +kernel
theorem dX12_next_61 : decode cX12_next 61 = .ok (.aload_n 0, 1) := by decide +kernel
theorem dX12_next_62 : decode cX12_next 62 = .ok (.getfield 212, 3) := by decide +kernel
theorem dX12_next_65 : decode cX12_next 65 = .ok (.putfield 209, 3) := by decide +kernel
theorem dX12_next_68 : decode cX12_next 68 = .ok (.aload_n 0, 1) := by decide +kernel
theorem dX12_next_69 : decode cX12_next 69 = .ok (.aload_n 0, 1) := by decide +kernel
theorem dX12_next_70 : decode cX12_next 70 = .ok (.getfield 212, 3) := by decide +kernel
theorem dX12_next_73 : decode cX12_next 73 = .ok (.bipush 97, 2) := by decide +kernel
theorem dX12_next_75 : decode cX12_next 75 = .ok (.bipush 122, 2) := by decide +kernel
theorem dX12_next_77 : decode cX12_next 77 = .ok (.invokevirtual 215, 3) := by decide +kernel
theorem dX12_next_80 : decode cX12_next 80 = .ok (.ifCond .eq 31, 3) := by decide +kernel
theorem dX12_next_111 : decode cX12_next 111 = .ok (.aload_n 0, 1) := by decide +kernel
theorem dX12_next_112 : decode cX12_next 112 = .ok (.aload_n 0, 1) := by decide +kernel
theorem dX12_next_113 : decode cX12_next 113 = .ok (.getfield 212, 3) := by decide +kernel
theorem dX12_next_116 : decode cX12_next 116 = .ok (.bipush 48, 2) := by decide +kernel
theorem dX12_next_118 : decode cX12_next 118 = .ok (.bipush 57, 2) := by decide +kernel
theorem dX12_next_120 : decode cX12_next 120 = .ok (.invokevirtual 215, 3) := by decide +kernel
theorem dX12_next_123 : decode cX12_next 123 = .ok (.ifCond .eq 31, 3) := by decide +kernel
theorem dX12_next_154 : decode cX12_next 154 = .ok (.aload_n 0, 1) := by decide +kernel
theorem dX12_next_155 : decode cX12_next 155 = .ok (.getfield 212, 3) := by decide +kernel
theorem dX12_next_158 : decode cX12_next 158 = .ok (.aload_n 0, 1) := by decide +kernel
theorem dX12_next_159 : decode cX12_next 159 = .ok (.getfield 198, 3) := by decide +kernel
theorem dX12_next_162 : decode cX12_next 162 = .ok (.if_icmp .ge 13, 3) := by decide +kernel
theorem dX12_next_175 : decode cX12_next 175 = .ok (.return_, 1) := by decide +kernel
theorem dX12_reads_0 : decode cX12_reads 0 = .ok (.aload_n 0, 1) := by decide +kernel
theorem dX12_reads_1 : decode cX12_reads 1 = .ok (.iconst (-1), 1) := by decide +kernel
theorem dX12_reads_2 : decode cX12_reads 2 = .ok (.putfield 219, 3) := by decide +kernel
theorem dX12_reads_5 : decode cX12_reads 5 = .ok (.aload_n 0, 1) := by decide +kernel
theorem dX12_reads_6 : decode cX12_reads 6 = .ok (.getfield 50, 3) := by decide +kernel
theorem dX12_reads_9 : decode cX12_reads 9 = .ok (.bipush 6, 2) := by decide +kernel
theorem dX12_reads_11 : decode cX12_reads 11 = .ok (.iconst 0, 1) := by decide +kernel
theorem dX12_reads_12 : decode cX12_reads 12 = .ok (.iastore, 1) := by decide +kernel
theorem dX12_reads_13 : decode cX12_reads 13 = .ok (.aload_n 0, 1) := by decide +kernel
theorem dX12_reads_14 : decode cX12_reads 14 = .ok (.getfield 54, 3) := by decide +kernel
theorem dX12_reads_17 : decode cX12_reads 17 = .ok (.bipush 6, 2) := by decide +kernel
theorem dX12_reads_19 : decode cX12_reads 19 = .ok (.iconst 0, 1) := by decide +kernel
theorem dX12_reads_20 : decode cX12_reads 20 = .ok (.iastore, 1) := by decide +kernel
theorem dX12_reads_21 : decode cX12_reads 21 = .ok (.aload_n 0, 1) := by decide +kernel
theorem dX12_reads_22 : decode cX12_reads 22 = .ok (.getfield 57, 3) := by decide +kernel
theorem dX12_reads_25 : decode cX12_reads 25 = .ok (.bipush 6, 2) := by decide +kernel
theorem dX12_reads_27 : decode cX12_reads 27 = .ok (.iconst 0, 1) := by decide +kernel
theorem dX12_reads_28 : decode cX12_reads 28 = .ok (.iastore, 1) := by decide +kernel
theorem dX12_reads_29 : decode cX12_reads 29 = .ok (.aload_n 0, 1) := by decide +kernel
theorem dX12_reads_30 : decode cX12_reads 30 = .ok (.getfield 60, 3) := by decide +kernel
theorem dX12_reads_33 : decode cX12_reads 33 = .ok (.bipush 6, 2) := by decide +kernel
theorem dX12_reads_35 : decode cX12_reads 35 = .ok (.iconst 0, 1) := by decide +kernel
theorem dX12_reads_36 : decode cX12_reads 36 = .ok (.iastore, 1) := by decide +kernel
theorem dX12_reads_37 : decode cX12_reads 37 = .ok (.aload_n 0, 1) := by decide +kernel
theorem dX12_reads_38 : decode cX12_reads 38 = .ok (.iconst 0, 1) := by decide +kernel
theorem dX12_reads_39 : decode cX12_reads 39 = .ok (.putfield 209, 3) := by decide +kernel
theorem dX12_reads_42 : decode cX12_reads 42 = .ok (.aload_n 0, 1) := by decide +kernel
theorem dX12_reads_43 : decode cX12_reads 43 = .ok (.invokevirtual 222, 3) := by decide +kernel
theorem dX12_reads_46 : decode cX12_reads 46 = .ok (.iconst 1, 1) := by decide +kernel
theorem dX12_reads_47 : decode cX12_reads 47 = .ok (.istore_n 1, 1) := by decide +kernel
theorem dX12_reads_48 : decode cX12_reads 48 = .ok (.iload_n 1, 1) := by decide +kernel
theorem dX12_reads_49 : decode cX12_reads 49 = .ok (.ifCond .eq 22, 3) := by decide +kernel
theorem dX12_reads_52 : decode cX12_reads 52 = .ok (.aload_n 0, 1) := by decide +kernel
theorem dX12_reads_53 : decode cX12_reads 53 = .ok (.getfield 212, 3) := by decide +kernel
theorem dX12_reads_56 : decode cX12_reads 56 = .ok (.aload_n 0, 1) := by decide +kernel
theorem dX12_reads_57 : decode cX12_reads 57 = .ok (.getfield 198, 3) := by decide +kernel
theorem dX12_reads_60 : decode cX12_reads 60 = .ok (.if_icmp .ge 11, 3) := by decide +kernel
theorem dX12_reads_71 : decode cX12_reads 71 = .ok (.iload_n 1, 1) := by decide +kernel
theorem dX12_reads_72 : decode cX12_reads 72 = .ok (.ifCond .eq 21, 3) := by decide +kernel
theorem dX12_reads_75 : decode cX12_reads 75 = .ok (.aload_n 0, 1) := by decide +kernel
theorem dX12_reads_76 : decode cX12_reads 76 = .ok (.getfield 50, 3) := by decide +kernel
theorem dX12_reads_79 : decode cX12_reads 79 = .ok (.bipush 6, 2) := by decide +kernel
theorem dX12_reads_81 : decode cX12_reads 81 = .ok (.iaload, 1) := by decide +kernel
theorem dX12_reads_82 : decode cX12_reads 82 = .ok (.ifCond .ne 11, 3) := by decide +kernel
theorem dX12_reads_85 : decode cX12_reads 85 = .ok (.aload_n 0, 1) := by decide +kernel
theorem dX12_reads_86 : decode cX12_reads 86 = .ok (.aload_n 0, 1) := by decide +kernel
theorem dX12_reads_87 : decode cX12_reads 87 = .ok (.getfield 198, 3) := by decide +kernel
theorem dX12_reads_90 : decode cX12_reads 90 = .ok (.putfield 219, 3) := by decide +kernel
theorem dX12_reads_93 : decode cX12_reads 93 = .ok (.return_, 1) := by decide +kernel
theorem dX12_fault_0 : decode cX12_fault 0 = .ok (.aload_n 0, 1) := by decide +kernel
theorem dX12_fault_1 : decode cX12_fault 1 = .ok (.invokevirtual 275, 3) := by decide +kernel
theorem dX12_fault_4 : decode cX12_fault 4 = .ok (.aload_n 0, 1) := by decide +kernel
theorem dX12_fault_5 : decode cX12_fault 5 = .ok (.getfield 219, 3) := by decide +kernel
theorem dX12_fault_8 : decode cX12_fault 8 = .ok (.ireturn, 1) := by decide +kernel
theorem dX12_room_0 : decode cX12_room 0 = .ok (.aload_n 0, 1) := by decide +kernel
theorem dX12_room_1 : decode cX12_room 1 = .ok (.getfield 278, 3) := by decide +kernel
theorem dX12_room_4 : decode cX12_room 4 = .ok (.bipush 6, 2) := by decide +kernel
theorem dX12_room_6 : decode cX12_room 6 = .ok (.if_icmp .ne 5, 3) := by decide +kernel
theorem dX12_room_11 : decode cX12_room 11 = .ok (.aload_n 0, 1) := by decide +kernel
theorem dX12_room_12 : decode cX12_room 12 = .ok (.invokevirtual 275, 3) := by decide +kernel
theorem dX12_room_15 : decode cX12_room 15 = .ok (.aload_n 0, 1) := by decide +kernel
theorem dX12_room_16 : decode cX12_room 16 = .ok (.getfield 219, 3) := by decide +kernel
theorem dX12_room_19 : decode cX12_room 19 = .ok (.iconst (-1), 1) := by decide +kernel
theorem dX12_room_20 : decode cX12_room 20 = .ok (.if_icmp .eq 5, 3) := by decide +kernel
theorem dX12_room_23 : decode cX12_room 23 = .ok (.iconst (-1), 1) := by decide +kernel
theorem dX12_room_24 : decode cX12_room 24 = .ok (.ireturn, 1) := by decide +kernel
theorem dX12_isRoom_0 : decode cX12_isRoom 0 = .ok (.iload_n 1, 1) := by decide +kernel
theorem dX12_isRoom_1 : decode cX12_isRoom 1 = .ok (.i2l, 1) := by decide +kernel
theorem dX12_isRoom_2 : decode cX12_isRoom 2 = .ok (.lconst 0, 1) := by decide +kernel
theorem dX12_isRoom_3 : decode cX12_isRoom 3 = .ok (.aload_n 0, 1) := by decide +kernel
theorem dX12_isRoom_4 : decode cX12_isRoom 4 = .ok (.getfield 278, 3) := by decide +kernel
theorem dX12_isRoom_7 : decode cX12_isRoom 7 = .ok (.iconst 1, 1) := by decide +kernel
theorem dX12_isRoom_8 : decode cX12_isRoom 8 = .ok (.isub, 1) := by decide +kernel
theorem dX12_isRoom_9 : decode cX12_isRoom 9 = .ok (.i2l, 1) := by decide +kernel
theorem dX12_isRoom_10 : decode cX12_isRoom 10 = .ok (.invokestatic 205, 3) := by decide +kernel
theorem dX12_isRoom_13 : decode cX12_isRoom 13 = .ok (.ireturn, 1) := by decide +kernel
theorem dX12_height_0 : decode cX12_height 0 = .ok (.aload_n 0, 1) := by decide +kernel
theorem dX12_height_1 : decode cX12_height 1 = .ok (.iload_n 1, 1) := by decide +kernel
theorem dX12_height_2 : decode cX12_height 2 = .ok (.invokevirtual 284, 3) := by decide +kernel
theorem dX12_height_5 : decode cX12_height 5 = .ok (.ifCond .eq 21, 3) := by decide +kernel
theorem dX12_height_26 : decode cX12_height 26 = .ok (.iconst (-1), 1) := by decide +kernel
theorem dX12_height_27 : decode cX12_height 27 = .ok (.ireturn, 1) := by decide +kernel
theorem dX12_paper_0 : decode cX12_paper 0 = .ok (.iload_n 1, 1) := by decide +kernel
theorem dX12_paper_1 : decode cX12_paper 1 = .ok (.i2l, 1) := by decide +kernel
theorem dX12_paper_2 : decode cX12_paper 2 = .ok (.ldc2_w 297, 3) := by decide +kernel
theorem dX12_paper_5 : decode cX12_paper 5 = .ok (.ldc2_w 299, 3) := by decide +kernel
theorem dX12_paper_8 : decode cX12_paper 8 = .ok (.invokestatic 205, 3) := by decide +kernel
theorem dX12_paper_11 : decode cX12_paper 11 = .ok (.ifCond .eq 91, 3) := by decide +kernel
theorem dX12_paper_14 : decode cX12_paper 14 = .ok (.iload_n 2, 1) := by decide +kernel
theorem dX12_paper_15 : decode cX12_paper 15 = .ok (.i2l, 1) := by decide +kernel
theorem dX12_paper_16 : decode cX12_paper 16 = .ok (.ldc2_w 301, 3) := by decide +kernel
theorem dX12_paper_19 : decode cX12_paper 19 = .ok (.ldc2_w 299, 3) := by decide +kernel
theorem dX12_paper_22 : decode cX12_paper 22 = .ok (.invokestatic 205, 3) := by decide +kernel
theorem dX12_paper_25 : decode cX12_paper 25 = .ok (.ifCond .eq 77, 3) := by decide +kernel
theorem dX12_paper_28 : decode cX12_paper 28 = .ok (.iload_n 3, 1) := by decide +kernel
theorem dX12_paper_29 : decode cX12_paper 29 = .ok (.i2l, 1) := by decide +kernel
theorem dX12_paper_30 : decode cX12_paper 30 = .ok (.lconst 0, 1) := by decide +kernel
theorem dX12_paper_31 : decode cX12_paper 31 = .ok (.ldc2_w 303, 3) := by decide +kernel
theorem dX12_paper_34 : decode cX12_paper 34 = .ok (.invokestatic 205, 3) := by decide +kernel
theorem dX12_paper_37 : decode cX12_paper 37 = .ok (.ifCond .eq 65, 3) := by decide +kernel
theorem dX12_paper_40 : decode cX12_paper 40 = .ok (.iload 4, 2) := by decide +kernel
theorem dX12_paper_42 : decode cX12_paper 42 = .ok (.i2l, 1) := by decide +kernel
theorem dX12_paper_43 : decode cX12_paper 43 = .ok (.ldc2_w 305, 3) := by decide +kernel
theorem dX12_paper_46 : decode cX12_paper 46 = .ok (.ldc2_w 307, 3) := by decide +kernel
theorem dX12_paper_49 : decode cX12_paper 49 = .ok (.invokestatic 205, 3) := by decide +kernel
theorem dX12_paper_52 : decode cX12_paper 52 = .ok (.ifCond .eq 50, 3) := by decide +kernel
theorem dX12_paper_55 : decode cX12_paper 55 = .ok (.iload 5, 2) := by decide +kernel
theorem dX12_paper_57 : decode cX12_paper 57 = .ok (.ifCond .lt 45, 3) := by decide +kernel
theorem dX12_paper_60 : decode cX12_paper 60 = .ok (.iload 5, 2) := by decide +kernel
theorem dX12_paper_62 : decode cX12_paper 62 = .ok (.sipush 1000, 3) := by decide +kernel
theorem dX12_paper_65 : decode cX12_paper 65 = .ok (.idiv, 1) := by decide +kernel
theorem dX12_paper_66 : decode cX12_paper 66 = .ok (.i2l, 1) := by decide +kernel
theorem dX12_paper_67 : decode cX12_paper 67 = .ok (.lconst 0, 1) := by decide +kernel
theorem dX12_paper_68 : decode cX12_paper 68 = .ok (.iload_n 2, 1) := by decide +kernel
theorem dX12_paper_69 : decode cX12_paper 69 = .ok (.iconst 1, 1) := by decide +kernel
theorem dX12_paper_70 : decode cX12_paper 70 = .ok (.isub, 1) := by decide +kernel
theorem dX12_paper_71 : decode cX12_paper 71 = .ok (.i2l, 1) := by decide +kernel
theorem dX12_paper_72 : decode cX12_paper 72 = .ok (.invokestatic 205, 3) := by decide +kernel
theorem dX12_paper_75 : decode cX12_paper 75 = .ok (.ifCond .eq 27, 3) := by decide +kernel
theorem dX12_paper_78 : decode cX12_paper 78 = .ok (.iload 5, 2) := by decide +kernel
theorem dX12_paper_80 : decode cX12_paper 80 = .ok (.sipush 1000, 3) := by decide +kernel
theorem dX12_paper_83 : decode cX12_paper 83 = .ok (.irem, 1) := by decide +kernel
theorem dX12_paper_84 : decode cX12_paper 84 = .ok (.i2l, 1) := by decide +kernel
theorem dX12_paper_85 : decode cX12_paper 85 = .ok (.lconst 1, 1) := by decide +kernel
theorem dX12_paper_86 : decode cX12_paper 86 = .ok (.iload_n 2, 1) := by decide +kernel
theorem dX12_paper_87 : decode cX12_paper 87 = .ok (.i2l, 1) := by decide +kernel
theorem dX12_paper_88 : decode cX12_paper 88 = .ok (.invokestatic 205, 3) := by decide +kernel
theorem dX12_paper_91 : decode cX12_paper 91 = .ok (.ifCond .eq 11, 3) := by decide +kernel
theorem dX12_paper_94 : decode cX12_paper 94 = .ok (.aload_n 0, 1) := by decide +kernel
theorem dX12_paper_95 : decode cX12_paper 95 = .ok (.getfield 309, 3) := by decide +kernel
theorem dX12_paper_98 : decode cX12_paper 98 = .ok (.iconst 4, 1) := by decide +kernel
theorem dX12_paper_99 : decode cX12_paper 99 = .ok (.if_icmp .ne 5, 3) := by decide +kernel
theorem dX12_paper_102 : decode cX12_paper 102 = .ok (.iconst (-1), 1) := by decide +kernel
theorem dX12_paper_103 : decode cX12_paper 103 = .ok (.ireturn, 1) := by decide +kernel
theorem dX12_paper_104 : decode cX12_paper 104 = .ok (.aload_n 0, 1) := by decide +kernel
theorem dX12_paper_105 : decode cX12_paper 105 = .ok (.getfield 85, 3) := by decide +kernel
theorem dX12_paper_108 : decode cX12_paper 108 = .ok (.aload_n 0, 1) := by decide +kernel
theorem dX12_paper_109 : decode cX12_paper 109 = .ok (.getfield 309, 3) := by decide +kernel
theorem dX12_paper_112 : decode cX12_paper 112 = .ok (.iload_n 1, 1) := by decide +kernel
theorem dX12_paper_113 : decode cX12_paper 113 = .ok (.iastore, 1) := by decide +kernel
theorem dX12_paper_114 : decode cX12_paper 114 = .ok (.aload_n 0, 1) := by decide +kernel
theorem dX12_paper_115 : decode cX12_paper 115 = .ok (.getfield 88, 3) := by decide +kernel
theorem dX12_paper_118 : decode cX12_paper 118 = .ok (.aload_n 0, 1) := by decide +kernel
theorem dX12_paper_119 : decode cX12_paper 119 = .ok (.getfield 309, 3) := by decide +kernel
theorem dX12_paper_122 : decode cX12_paper 122 = .ok (.iload_n 2, 1) := by decide +kernel
theorem dX12_paper_123 : decode cX12_paper 123 = .ok (.iastore, 1) := by decide +kernel
theorem dX12_paper_124 : decode cX12_paper 124 = .ok (.aload_n 0, 1) := by decide +kernel
theorem dX12_paper_125 : decode cX12_paper 125 = .ok (.getfield 91, 3) := by decide +kernel
theorem dX12_paper_128 : decode cX12_paper 128 = .ok (.aload_n 0, 1) := by decide +kernel
theorem dX12_paper_129 : decode cX12_paper 129 = .ok (.getfield 309, 3) := by decide +kernel
theorem dX12_paper_132 : decode cX12_paper 132 = .ok (.iload_n 3, 1) := by decide +kernel
theorem dX12_paper_133 : decode cX12_paper 133 = .ok (.iastore, 1) := by decide +kernel
theorem dX12_paper_134 : decode cX12_paper 134 = .ok (.aload_n 0, 1) := by decide +kernel
theorem dX12_paper_135 : decode cX12_paper 135 = .ok (.getfield 94, 3) := by decide +kernel
theorem dX12_paper_138 : decode cX12_paper 138 = .ok (.aload_n 0, 1) := by decide +kernel
theorem dX12_paper_139 : decode cX12_paper 139 = .ok (.getfield 309, 3) := by decide +kernel
theorem dX12_paper_142 : decode cX12_paper 142 = .ok (.iload 4, 2) := by decide +kernel
theorem dX12_paper_144 : decode cX12_paper 144 = .ok (.iastore, 1) := by decide +kernel
theorem dX12_paper_145 : decode cX12_paper 145 = .ok (.aload_n 0, 1) := by decide +kernel
theorem dX12_paper_146 : decode cX12_paper 146 = .ok (.getfield 97, 3) := by decide +kernel
theorem dX12_paper_149 : decode cX12_paper 149 = .ok (.aload_n 0, 1) := by decide +kernel
theorem dX12_paper_150 : decode cX12_paper 150 = .ok (.getfield 309, 3) := by decide +kernel
theorem dX12_paper_153 : decode cX12_paper 153 = .ok (.iload 5, 2) := by decide +kernel
theorem dX12_paper_155 : decode cX12_paper 155 = .ok (.sipush 1000, 3) := by decide +kernel
theorem dX12_paper_158 : decode cX12_paper 158 = .ok (.idiv, 1) := by decide +kernel
theorem dX12_paper_159 : decode cX12_paper 159 = .ok (.iastore, 1) := by decide +kernel
theorem dX12_paper_160 : decode cX12_paper 160 = .ok (.aload_n 0, 1) := by decide +kernel
theorem dX12_paper_161 : decode cX12_paper 161 = .ok (.getfield 100, 3) := by decide +kernel
theorem dX12_paper_164 : decode cX12_paper 164 = .ok (.aload_n 0, 1) := by decide +kernel
theorem dX12_paper_165 : decode cX12_paper 165 = .ok (.getfield 309, 3) := by decide +kernel
theorem dX12_paper_168 : decode cX12_paper 168 = .ok (.iload 5, 2) := by decide +kernel
theorem dX12_paper_170 : decode cX12_paper 170 = .ok (.sipush 1000, 3) := by decide +kernel
theorem dX12_paper_173 : decode cX12_paper 173 = .ok (.irem, 1) := by decide +kernel
theorem dX12_paper_174 : decode cX12_paper 174 = .ok (.iastore, 1) := by decide +kernel
theorem dX12_paper_175 : decode cX12_paper 175 = .ok (.aload_n 0, 1) := by decide +kernel
theorem dX12_paper_176 : decode cX12_paper 176 = .ok (.dup, 1) := by decide +kernel
theorem dX12_paper_177 : decode cX12_paper 177 = .ok (.getfield 309, 3) := by decide +kernel
theorem dX12_paper_180 : decode cX12_paper 180 = .ok (.iconst 1, 1) := by decide +kernel
theorem dX12_paper_181 : decode cX12_paper 181 = .ok (.iadd, 1) := by decide +kernel
theorem dX12_paper_182 : decode cX12_paper 182 = .ok (.putfield 309, 3) := by decide +kernel
theorem dX12_paper_185 : decode cX12_paper 185 = .ok (.aload_n 0, 1) := by decide +kernel
theorem dX12_paper_186 : decode cX12_paper 186 = .ok (.getfield 309, 3) := by decide +kernel
theorem dX12_paper_189 : decode cX12_paper 189 = .ok (.iconst 1, 1) := by decide +kernel
theorem dX12_paper_190 : decode cX12_paper 190 = .ok (.isub, 1) := by decide +kernel
theorem dX12_paper_191 : decode cX12_paper 191 = .ok (.ireturn, 1) := by decide +kernel
theorem dX12_isPaper_0 : decode cX12_isPaper 0 = .ok (.iload_n 1, 1) := by decide +kernel
theorem dX12_isPaper_1 : decode cX12_isPaper 1 = .ok (.i2l, 1) := by decide +kernel
theorem dX12_isPaper_2 : decode cX12_isPaper 2 = .ok (.lconst 0, 1) := by decide +kernel
theorem dX12_isPaper_3 : decode cX12_isPaper 3 = .ok (.aload_n 0, 1) := by decide +kernel
theorem dX12_isPaper_4 : decode cX12_isPaper 4 = .ok (.getfield 309, 3) := by decide +kernel
theorem dX12_isPaper_7 : decode cX12_isPaper 7 = .ok (.iconst 1, 1) := by decide +kernel
theorem dX12_isPaper_8 : decode cX12_isPaper 8 = .ok (.isub, 1) := by decide +kernel
theorem dX12_isPaper_9 : decode cX12_isPaper 9 = .ok (.i2l, 1) := by decide +kernel
theorem dX12_isPaper_10 : decode cX12_isPaper 10 = .ok (.invokestatic 205, 3) := by decide +kernel
theorem dX12_isPaper_13 : decode cX12_isPaper 13 = .ok (.ireturn, 1) := by decide +kernel
theorem dX12_trim_0 : decode cX12_trim 0 = .ok (.iload_n 1, 1) := by decide +kernel
theorem dX12_trim_1 : decode cX12_trim 1 = .ok (.i2l, 1) := by decide +kernel
theorem dX12_trim_2 : decode cX12_trim 2 = .ok (.lconst 0, 1) := by decide +kernel
theorem dX12_trim_3 : decode cX12_trim 3 = .ok (.ldc2_w 297, 3) := by decide +kernel
theorem dX12_trim_6 : decode cX12_trim 6 = .ok (.invokestatic 205, 3) := by decide +kernel
theorem dX12_trim_9 : decode cX12_trim 9 = .ok (.ifCond .ne 5, 3) := by decide +kernel
theorem dX12_trim_12 : decode cX12_trim 12 = .ok (.iconst 0, 1) := by decide +kernel
theorem dX12_trim_13 : decode cX12_trim 13 = .ok (.ireturn, 1) := by decide +kernel
theorem dX12_trim_14 : decode cX12_trim 14 = .ok (.aload_n 0, 1) := by decide +kernel
theorem dX12_trim_15 : decode cX12_trim 15 = .ok (.iload_n 1, 1) := by decide +kernel
theorem dX12_trim_16 : decode cX12_trim 16 = .ok (.putfield 103, 3) := by decide +kernel
theorem dX12_trim_19 : decode cX12_trim 19 = .ok (.iconst 1, 1) := by decide +kernel
theorem dX12_trim_20 : decode cX12_trim 20 = .ok (.ireturn, 1) := by decide +kernel
theorem dX12_isDone_0 : decode cX12_isDone 0 = .ok (.aload_n 0, 1) := by decide +kernel
theorem dX12_isDone_1 : decode cX12_isDone 1 = .ok (.iload_n 1, 1) := by decide +kernel
theorem dX12_isDone_2 : decode cX12_isDone 2 = .ok (.invokevirtual 284, 3) := by decide +kernel
theorem dX12_isDone_5 : decode cX12_isDone 5 = .ok (.ifCond .eq 17, 3) := by decide +kernel
theorem dX12_isDone_22 : decode cX12_isDone 22 = .ok (.iconst 0, 1) := by decide +kernel
theorem dX12_isDone_23 : decode cX12_isDone 23 = .ok (.ireturn, 1) := by decide +kernel
theorem dX12_done_0 : decode cX12_done 0 = .ok (.aload_n 0, 1) := by decide +kernel
theorem dX12_done_1 : decode cX12_done 1 = .ok (.iload_n 1, 1) := by decide +kernel
theorem dX12_done_2 : decode cX12_done 2 = .ok (.invokevirtual 284, 3) := by decide +kernel
theorem dX12_done_5 : decode cX12_done 5 = .ok (.ifCond .eq 48, 3) := by decide +kernel
theorem dX12_done_53 : decode cX12_done 53 = .ok (.iconst (-1), 1) := by decide +kernel
theorem dX12_done_54 : decode cX12_done 54 = .ok (.ireturn, 1) := by decide +kernel
theorem dX12_of_0 : decode cX12_of 0 = .ok (.aload_n 0, 1) := by decide +kernel
theorem dX12_of_1 : decode cX12_of 1 = .ok (.iload_n 1, 1) := by decide +kernel
theorem dX12_of_2 : decode cX12_of 2 = .ok (.invokevirtual 284, 3) := by decide +kernel
theorem dX12_of_5 : decode cX12_of 5 = .ok (.ifCond .ne 5, 3) := by decide +kernel
theorem dX12_of_8 : decode cX12_of 8 = .ok (.iconst (-1), 1) := by decide +kernel
theorem dX12_of_9 : decode cX12_of 9 = .ok (.ireturn, 1) := by decide +kernel
theorem dX12_strip_0 : decode cX12_strip 0 = .ok (.aload_n 0, 1) := by decide +kernel
theorem dX12_strip_1 : decode cX12_strip 1 = .ok (.iload_n 1, 1) := by decide +kernel
theorem dX12_strip_2 : decode cX12_strip 2 = .ok (.invokevirtual 362, 3) := by decide +kernel
theorem dX12_strip_5 : decode cX12_strip 5 = .ok (.ifCond .ne 5, 3) := by decide +kernel
theorem dX12_strip_8 : decode cX12_strip 8 = .ok (.iconst (-1), 1) := by decide +kernel
theorem dX12_strip_9 : decode cX12_strip 9 = .ok (.ireturn, 1) := by decide +kernel
theorem dX12_piece_0 : decode cX12_piece 0 = .ok (.aload_n 0, 1) := by decide +kernel
theorem dX12_piece_1 : decode cX12_piece 1 = .ok (.iload_n 1, 1) := by decide +kernel
theorem dX12_piece_2 : decode cX12_piece 2 = .ok (.invokevirtual 362, 3) := by decide +kernel
theorem dX12_piece_5 : decode cX12_piece 5 = .ok (.ifCond .ne 5, 3) := by decide +kernel
theorem dX12_piece_8 : decode cX12_piece 8 = .ok (.iconst (-1), 1) := by decide +kernel
theorem dX12_piece_9 : decode cX12_piece 9 = .ok (.ireturn, 1) := by decide +kernel
theorem dX12_rolls_0 : decode cX12_rolls 0 = .ok (.aload_n 0, 1) := by decide +kernel
theorem dX12_rolls_1 : decode cX12_rolls 1 = .ok (.iload_n 1, 1) := by decide +kernel
theorem dX12_rolls_2 : decode cX12_rolls 2 = .ok (.invokevirtual 362, 3) := by decide +kernel
end
section
theorem dX12_rolls_5 : decode cX12_rolls 5 = .ok (.ifCond .eq 15, 3) := by decide +kernel
theorem dX12_rolls_20 : decode cX12_rolls 20 = .ok (.iconst (-1), 1) := by decide +kernel
theorem dX12_rolls_21 : decode cX12_rolls 21 = .ok (.ireturn, 1) := by decide +kernel
theorem dX12_left_0 : decode cX12_left 0 = .ok (.aload_n 0, 1) := by decide +kernel
theorem dX12_left_1 : decode cX12_left 1 = .ok (.iload_n 1, 1) := by decide +kernel
theorem dX12_left_2 : decode cX12_left 2 = .ok (.invokevirtual 362, 3) := by decide +kernel
theorem dX12_left_5 : decode cX12_left 5 = .ok (.ifCond .eq 13, 3) := by decide +kernel
theorem dX12_left_18 : decode cX12_left 18 = .ok (.iconst (-1), 1) := by decide +kernel
theorem dX12_left_19 : decode cX12_left 19 = .ok (.ireturn, 1) := by decide +kernel
theorem dX12_faults_0 : decode cX12_faults 0 = .ok (.aload_n 0, 1) := by decide +kernel
theorem dX12_faults_1 : decode cX12_faults 1 = .ok (.iload_n 1, 1) := by decide +kernel
theorem dX12_faults_2 : decode cX12_faults 2 = .ok (.invokevirtual 362, 3) := by decide +kernel
theorem dX12_faults_5 : decode cX12_faults 5 = .ok (.ifCond .eq 15, 3) := by decide +kernel
theorem dX12_faults_20 : decode cX12_faults 20 = .ok (.iconst (-1), 1) := by decide +kernel
theorem dX12_faults_21 : decode cX12_faults 21 = .ok (.ireturn, 1) := by decide +kernel
theorem dX12_best_0 : decode cX12_best 0 = .ok (.aload_n 0, 1) := by decide +kernel
theorem dX12_best_1 : decode cX12_best 1 = .ok (.iload_n 1, 1) := by decide +kernel
theorem dX12_best_2 : decode cX12_best 2 = .ok (.invokevirtual 284, 3) := by decide +kernel
theorem dX12_best_5 : decode cX12_best 5 = .ok (.ifCond .eq 36, 3) := by decide +kernel
theorem dX12_best_41 : decode cX12_best 41 = .ok (.iconst (-1), 1) := by decide +kernel
theorem dX12_best_42 : decode cX12_best 42 = .ok (.ireturn, 1) := by decide +kernel
theorem dX12_areCuts_0 : decode cX12_areCuts 0 = .ok (.aload_n 0, 1) := by decide +kernel
theorem dX12_areCuts_1 : decode cX12_areCuts 1 = .ok (.iload_n 1, 1) := by decide +kernel
theorem dX12_areCuts_2 : decode cX12_areCuts 2 = .ok (.invokevirtual 284, 3) := by decide +kernel
theorem dX12_areCuts_5 : decode cX12_areCuts 5 = .ok (.ifCond .eq 29, 3) := by decide +kernel
theorem dX12_areCuts_34 : decode cX12_areCuts 34 = .ok (.iconst 0, 1) := by decide +kernel
theorem dX12_areCuts_35 : decode cX12_areCuts 35 = .ok (.ireturn, 1) := by decide +kernel
theorem dX12_shown_0 : decode cX12_shown 0 = .ok (.aload_n 0, 1) := by decide +kernel
theorem dX12_shown_1 : decode cX12_shown 1 = .ok (.iload_n 1, 1) := by decide +kernel
theorem dX12_shown_2 : decode cX12_shown 2 = .ok (.iload_n 2, 1) := by decide +kernel
theorem dX12_shown_3 : decode cX12_shown 3 = .ok (.invokevirtual 425, 3) := by decide +kernel
theorem dX12_shown_6 : decode cX12_shown 6 = .ok (.ifCond .eq 12, 3) := by decide +kernel
theorem dX12_shown_18 : decode cX12_shown 18 = .ok (.iconst (-1), 1) := by decide +kernel
theorem dX12_shown_19 : decode cX12_shown 19 = .ok (.ireturn, 1) := by decide +kernel
theorem dX12_run_0 : decode cX12_run 0 = .ok (.aload_n 0, 1) := by decide +kernel
theorem dX12_run_1 : decode cX12_run 1 = .ok (.iload_n 1, 1) := by decide +kernel
theorem dX12_run_2 : decode cX12_run 2 = .ok (.iload_n 2, 1) := by decide +kernel
theorem dX12_run_3 : decode cX12_run 3 = .ok (.invokevirtual 425, 3) := by decide +kernel
theorem dX12_run_6 : decode cX12_run 6 = .ok (.ifCond .eq 21, 3) := by decide +kernel
theorem dX12_run_27 : decode cX12_run 27 = .ok (.ldc_w 431, 3) := by decide +kernel
theorem dX12_run_30 : decode cX12_run 30 = .ok (.ireturn, 1) := by decide +kernel
theorem dX12_cuts__0 : decode cX12_cuts_ 0 = .ok (.aload_n 0, 1) := by decide +kernel
theorem dX12_cuts__1 : decode cX12_cuts_ 1 = .ok (.iload_n 1, 1) := by decide +kernel
theorem dX12_cuts__2 : decode cX12_cuts_ 2 = .ok (.invokevirtual 284, 3) := by decide +kernel
theorem dX12_cuts__5 : decode cX12_cuts_ 5 = .ok (.ifCond .ne 5, 3) := by decide +kernel
theorem dX12_cuts__8 : decode cX12_cuts_ 8 = .ok (.iconst (-1), 1) := by decide +kernel
theorem dX12_cuts__9 : decode cX12_cuts_ 9 = .ok (.ireturn, 1) := by decide +kernel
theorem dX12_batch_0 : decode cX12_batch 0 = .ok (.aload_n 0, 1) := by decide +kernel
theorem dX12_batch_1 : decode cX12_batch 1 = .ok (.iload_n 1, 1) := by decide +kernel
theorem dX12_batch_2 : decode cX12_batch 2 = .ok (.invokevirtual 312, 3) := by decide +kernel
theorem dX12_batch_5 : decode cX12_batch 5 = .ok (.ifCond .eq 23, 3) := by decide +kernel
theorem dX12_batch_28 : decode cX12_batch 28 = .ok (.iconst (-1), 1) := by decide +kernel
theorem dX12_batch_29 : decode cX12_batch 29 = .ok (.ireturn, 1) := by decide +kernel
theorem dX12_own_0 : decode cX12_own 0 = .ok (.aload_n 0, 1) := by decide +kernel
theorem dX12_own_1 : decode cX12_own 1 = .ok (.iload_n 1, 1) := by decide +kernel
theorem dX12_own_2 : decode cX12_own 2 = .ok (.invokevirtual 362, 3) := by decide +kernel
theorem dX12_own_5 : decode cX12_own 5 = .ok (.ifCond .eq 21, 3) := by decide +kernel
theorem dX12_own_26 : decode cX12_own 26 = .ok (.iconst (-1), 1) := by decide +kernel
theorem dX12_own_27 : decode cX12_own 27 = .ok (.ireturn, 1) := by decide +kernel
theorem dX12_shared_0 : decode cX12_shared 0 = .ok (.aload_n 0, 1) := by decide +kernel
theorem dX12_shared_1 : decode cX12_shared 1 = .ok (.iload_n 1, 1) := by decide +kernel
theorem dX12_shared_2 : decode cX12_shared 2 = .ok (.invokevirtual 362, 3) := by decide +kernel
theorem dX12_shared_5 : decode cX12_shared 5 = .ok (.ifCond .eq 26, 3) := by decide +kernel
theorem dX12_shared_31 : decode cX12_shared 31 = .ok (.iconst (-1), 1) := by decide +kernel
theorem dX12_shared_32 : decode cX12_shared 32 = .ok (.ireturn, 1) := by decide +kernel
theorem dX12_all_0 : decode cX12_all 0 = .ok (.aload_n 0, 1) := by decide +kernel
theorem dX12_all_1 : decode cX12_all 1 = .ok (.iload_n 1, 1) := by decide +kernel
theorem dX12_all_2 : decode cX12_all 2 = .ok (.invokevirtual 312, 3) := by decide +kernel
theorem dX12_all_5 : decode cX12_all 5 = .ok (.ifCond .ne 5, 3) := by decide +kernel
theorem dX12_all_8 : decode cX12_all 8 = .ok (.iconst (-1), 1) := by decide +kernel
theorem dX12_all_9 : decode cX12_all 9 = .ok (.ireturn, 1) := by decide +kernel
theorem dX12_keep_0 : decode cX12_keep 0 = .ok (.aload_n 0, 1) := by decide +kernel
theorem dX12_keep_1 : decode cX12_keep 1 = .ok (.iload_n 1, 1) := by decide +kernel
theorem dX12_keep_2 : decode cX12_keep 2 = .ok (.invokevirtual 312, 3) := by decide +kernel
theorem dX12_keep_5 : decode cX12_keep 5 = .ok (.ifCond .eq 42, 3) := by decide +kernel
theorem dX12_keep_47 : decode cX12_keep 47 = .ok (.iconst (-1), 1) := by decide +kernel
theorem dX12_keep_48 : decode cX12_keep 48 = .ok (.ireturn, 1) := by decide +kernel
theorem dX12_mended_0 : decode cX12_mended 0 = .ok (.aload_n 0, 1) := by decide +kernel
theorem dX12_mended_1 : decode cX12_mended 1 = .ok (.iload_n 1, 1) := by decide +kernel
theorem dX12_mended_2 : decode cX12_mended 2 = .ok (.invokevirtual 362, 3) := by decide +kernel
theorem dX12_mended_5 : decode cX12_mended 5 = .ok (.ifCond .ne 5, 3) := by decide +kernel
theorem dX12_mended_8 : decode cX12_mended 8 = .ok (.iconst (-1), 1) := by decide +kernel
theorem dX12_mended_9 : decode cX12_mended 9 = .ok (.ireturn, 1) := by decide +kernel
theorem dX12_border_0 : decode cX12_border 0 = .ok (.aload_n 0, 1) := by decide +kernel
theorem dX12_border_1 : decode cX12_border 1 = .ok (.iload_n 1, 1) := by decide +kernel
theorem dX12_border_2 : decode cX12_border 2 = .ok (.invokevirtual 284, 3) := by decide +kernel
theorem dX12_border_5 : decode cX12_border 5 = .ok (.ifCond .eq 29, 3) := by decide +kernel
theorem dX12_border_34 : decode cX12_border 34 = .ok (.iconst (-1), 1) := by decide +kernel
theorem dX12_border_35 : decode cX12_border 35 = .ok (.ireturn, 1) := by decide +kernel
theorem dX12_day_0 : decode cX12_day 0 = .ok (.aload_n 0, 1) := by decide +kernel
theorem dX12_day_1 : decode cX12_day 1 = .ok (.iload_n 1, 1) := by decide +kernel
theorem dX12_day_2 : decode cX12_day 2 = .ok (.invokevirtual 362, 3) := by decide +kernel
theorem dX12_day_5 : decode cX12_day 5 = .ok (.ifCond .eq 71, 3) := by decide +kernel
theorem dX12_day_76 : decode cX12_day 76 = .ok (.iconst (-1), 1) := by decide +kernel
theorem dX12_day_77 : decode cX12_day 77 = .ok (.ireturn, 1) := by decide +kernel
theorem dX12_hang_0 : decode cX12_hang 0 = .ok (.aload_n 0, 1) := by decide +kernel
theorem dX12_hang_1 : decode cX12_hang 1 = .ok (.iload_n 1, 1) := by decide +kernel
theorem dX12_hang_2 : decode cX12_hang 2 = .ok (.invokevirtual 362, 3) := by decide +kernel
theorem dX12_hang_5 : decode cX12_hang 5 = .ok (.ifCond .eq 34, 3) := by decide +kernel
theorem dX12_hang_39 : decode cX12_hang 39 = .ok (.iconst (-1), 1) := by decide +kernel
theorem dX12_hang_40 : decode cX12_hang 40 = .ok (.ireturn, 1) := by decide +kernel
theorem dX12_image_0 : decode cX12_image 0 = .ok (.iload_n 1, 1) := by decide +kernel
theorem dX12_image_1 : decode cX12_image 1 = .ok (.i2l, 1) := by decide +kernel
theorem dX12_image_2 : decode cX12_image 2 = .ok (.lconst 0, 1) := by decide +kernel
theorem dX12_image_3 : decode cX12_image 3 = .ok (.ldc2_w 303, 3) := by decide +kernel
theorem dX12_image_6 : decode cX12_image 6 = .ok (.invokestatic 205, 3) := by decide +kernel
theorem dX12_image_9 : decode cX12_image 9 = .ok (.ifCond .ne 5, 3) := by decide +kernel
theorem dX12_image_12 : decode cX12_image 12 = .ok (.iconst 0, 1) := by decide +kernel
theorem dX12_image_13 : decode cX12_image 13 = .ok (.ireturn, 1) := by decide +kernel
theorem dX12_image_14 : decode cX12_image 14 = .ok (.iconst 0, 1) := by decide +kernel
theorem dX12_image_15 : decode cX12_image 15 = .ok (.istore_n 2, 1) := by decide +kernel
theorem dX12_image_16 : decode cX12_image 16 = .ok (.iload_n 2, 1) := by decide +kernel
theorem dX12_image_17 : decode cX12_image 17 = .ok (.aload_n 0, 1) := by decide +kernel
theorem dX12_image_18 : decode cX12_image 18 = .ok (.getfield 278, 3) := by decide +kernel
theorem dX12_image_21 : decode cX12_image 21 = .ok (.if_icmp .ge 79, 3) := by decide +kernel
theorem dX12_image_100 : decode cX12_image 100 = .ok (.iconst 0, 1) := by decide +kernel
theorem dX12_image_101 : decode cX12_image 101 = .ok (.istore_n 2, 1) := by decide +kernel
theorem dX12_image_102 : decode cX12_image 102 = .ok (.iload_n 2, 1) := by decide +kernel
theorem dX12_image_103 : decode cX12_image 103 = .ok (.aload_n 0, 1) := by decide +kernel
theorem dX12_image_104 : decode cX12_image 104 = .ok (.getfield 449, 3) := by decide +kernel
theorem dX12_image_107 : decode cX12_image 107 = .ok (.if_icmp .ge 61, 3) := by decide +kernel
theorem dX12_image_168 : decode cX12_image 168 = .ok (.aload_n 0, 1) := by decide +kernel
theorem dX12_image_169 : decode cX12_image 169 = .ok (.getfield 191, 3) := by decide +kernel
theorem dX12_image_172 : decode cX12_image 172 = .ok (.iload_n 1, 1) := by decide +kernel
theorem dX12_image_173 : decode cX12_image 173 = .ok (.aload_n 0, 1) := by decide +kernel
theorem dX12_image_174 : decode cX12_image 174 = .ok (.getfield 278, 3) := by decide +kernel
theorem dX12_image_177 : decode cX12_image 177 = .ok (.iastore, 1) := by decide +kernel
theorem dX12_image_178 : decode cX12_image 178 = .ok (.aload_n 0, 1) := by decide +kernel
theorem dX12_image_179 : decode cX12_image 179 = .ok (.getfield 188, 3) := by decide +kernel
theorem dX12_image_182 : decode cX12_image 182 = .ok (.iload_n 1, 1) := by decide +kernel
theorem dX12_image_183 : decode cX12_image 183 = .ok (.aload_n 0, 1) := by decide +kernel
theorem dX12_image_184 : decode cX12_image 184 = .ok (.getfield 449, 3) := by decide +kernel
theorem dX12_image_187 : decode cX12_image 187 = .ok (.iastore, 1) := by decide +kernel
theorem dX12_image_188 : decode cX12_image 188 = .ok (.aload_n 0, 1) := by decide +kernel
theorem dX12_image_189 : decode cX12_image 189 = .ok (.getfield 194, 3) := by decide +kernel
theorem dX12_image_192 : decode cX12_image 192 = .ok (.iload_n 1, 1) := by decide +kernel
theorem dX12_image_193 : decode cX12_image 193 = .ok (.iconst 1, 1) := by decide +kernel
theorem dX12_image_194 : decode cX12_image 194 = .ok (.bastore, 1) := by decide +kernel
theorem dX12_image_195 : decode cX12_image 195 = .ok (.iconst 1, 1) := by decide +kernel
theorem dX12_image_196 : decode cX12_image 196 = .ok (.ireturn, 1) := by decide +kernel
theorem dX12_on_0 : decode cX12_on 0 = .ok (.iload_n 1, 1) := by decide +kernel
theorem dX12_on_1 : decode cX12_on 1 = .ok (.i2l, 1) := by decide +kernel
theorem dX12_on_2 : decode cX12_on 2 = .ok (.lconst 0, 1) := by decide +kernel
theorem dX12_on_3 : decode cX12_on 3 = .ok (.ldc2_w 303, 3) := by decide +kernel
theorem dX12_on_6 : decode cX12_on 6 = .ok (.invokestatic 205, 3) := by decide +kernel
theorem dX12_on_9 : decode cX12_on 9 = .ok (.ifCond .eq 12, 3) := by decide +kernel
theorem dX12_on_12 : decode cX12_on 12 = .ok (.aload_n 0, 1) := by decide +kernel
theorem dX12_on_13 : decode cX12_on 13 = .ok (.getfield 194, 3) := by decide +kernel
theorem dX12_on_16 : decode cX12_on 16 = .ok (.iload_n 1, 1) := by decide +kernel
theorem dX12_on_17 : decode cX12_on 17 = .ok (.baload, 1) := by decide +kernel
theorem dX12_on_18 : decode cX12_on 18 = .ok (.ifCond .ne 5, 3) := by decide +kernel
theorem dX12_on_21 : decode cX12_on 21 = .ok (.iconst 0, 1) := by decide +kernel
theorem dX12_on_22 : decode cX12_on 22 = .ok (.ireturn, 1) := by decide +kernel
theorem dX12_count_0 : decode cX12_count 0 = .ok (.iload_n 1, 1) := by decide +kernel
theorem dX12_count_1 : decode cX12_count 1 = .ok (.tableswitch 69 0 5 #[39, 44, 49, 54, 59, 64], 39) := by decide +kernel
theorem dX12_count_40 : decode cX12_count 40 = .ok (.aload_n 0, 1) := by decide +kernel
theorem dX12_count_41 : decode cX12_count 41 = .ok (.getfield 278, 3) := by decide +kernel
theorem dX12_count_44 : decode cX12_count 44 = .ok (.ireturn, 1) := by decide +kernel
theorem dX12_count_45 : decode cX12_count 45 = .ok (.aload_n 0, 1) := by decide +kernel
theorem dX12_count_46 : decode cX12_count 46 = .ok (.getfield 309, 3) := by decide +kernel
theorem dX12_count_49 : decode cX12_count 49 = .ok (.ireturn, 1) := by decide +kernel
theorem dX12_count_50 : decode cX12_count 50 = .ok (.aload_n 0, 1) := by decide +kernel
theorem dX12_count_51 : decode cX12_count 51 = .ok (.getfield 103, 3) := by decide +kernel
theorem dX12_count_54 : decode cX12_count 54 = .ok (.ireturn, 1) := by decide +kernel
theorem dX12_count_55 : decode cX12_count 55 = .ok (.aload_n 0, 1) := by decide +kernel
theorem dX12_count_56 : decode cX12_count 56 = .ok (.getfield 434, 3) := by decide +kernel
theorem dX12_count_59 : decode cX12_count 59 = .ok (.ireturn, 1) := by decide +kernel
theorem dX12_count_60 : decode cX12_count 60 = .ok (.aload_n 0, 1) := by decide +kernel
theorem dX12_count_61 : decode cX12_count 61 = .ok (.getfield 449, 3) := by decide +kernel
theorem dX12_count_64 : decode cX12_count 64 = .ok (.ireturn, 1) := by decide +kernel
theorem dX12_count_65 : decode cX12_count 65 = .ok (.aload_n 0, 1) := by decide +kernel
theorem dX12_count_66 : decode cX12_count 66 = .ok (.getfield 198, 3) := by decide +kernel
theorem dX12_count_69 : decode cX12_count 69 = .ok (.ireturn, 1) := by decide +kernel
theorem dX12_count_70 : decode cX12_count 70 = .ok (.iconst (-1), 1) := by decide +kernel
theorem dX12_count_71 : decode cX12_count 71 = .ok (.ireturn, 1) := by decide +kernel
end
section
theorem dL_law_0 : decode cL_law 0 = .ok (.new 7, 3) := by decide +kernel
theorem dL_law_3 : decode cL_law 3 = .ok (.dup, 1) := by decide +kernel
theorem dL_law_4 : decode cL_law 4 = .ok (.invokespecial 9, 3) := by decide +kernel
theorem dL_law_7 : decode cL_law 7 = .ok (.astore_n 1, 1) := by decide +kernel
theorem dL_law_8 : decode cL_law 8 = .ok (.new 10, 3) := by decide +kernel
theorem dL_law_11 : decode cL_law 11 = .ok (.dup, 1) := by decide +kernel
theorem dL_law_12 : decode cL_law 12 = .ok (.invokespecial 12, 3) := by decide +kernel
theorem dL_law_15 : decode cL_law 15 = .ok (.astore_n 2, 1) := by decide +kernel
theorem dL_law_16 : decode cL_law 16 = .ok (.iconst 0, 1) := by decide +kernel
theorem dL_law_17 : decode cL_law 17 = .ok (.istore_n 3, 1) := by decide +kernel
theorem dL_law_18 : decode cL_law 18 = .ok (.iload_n 3, 1) := by decide +kernel
theorem dL_law_19 : decode cL_law 19 = .ok (.aload_n 0, 1) := by decide +kernel
theorem dL_law_20 : decode cL_law 20 = .ok (.arraylength, 1) := by decide +kernel
theorem dL_law_21 : decode cL_law 21 = .ok (.bipush 6, 2) := by decide +kernel
theorem dL_law_23 : decode cL_law 23 = .ok (.isub, 1) := by decide +kernel
theorem dL_law_24 : decode cL_law 24 = .ok (.if_icmp .gt 1220, 3) := by decide +kernel
theorem dL_law_27 : decode cL_law 27 = .ok (.aload_n 0, 1) := by decide +kernel
theorem dL_law_28 : decode cL_law 28 = .ok (.iload_n 3, 1) := by decide +kernel
theorem dL_law_29 : decode cL_law 29 = .ok (.iaload, 1) := by decide +kernel
theorem dL_law_30 : decode cL_law 30 = .ok (.bipush 31, 2) := by decide +kernel
theorem dL_law_32 : decode cL_law 32 = .ok (.iand, 1) := by decide +kernel
theorem dL_law_33 : decode cL_law 33 = .ok (.tableswitch 1205 0 29 #[135, 198, 221, 234, 247, 280, 313, 376, 399, 452, 495, 538, 571, 614, 647, 700, 733, 776, 799, 832, 865, 898, 921, 964, 997, 1040, 1103, 1136, 1159, 1182], 135) := by decide +kernel
theorem dL_law_168 : decode cL_law 168 = .ok (.aload_n 1, 1) := by decide +kernel
theorem dL_law_169 : decode cL_law 169 = .ok (.aload_n 0, 1) := by decide +kernel
theorem dL_law_170 : decode cL_law 170 = .ok (.iload_n 3, 1) := by decide +kernel
theorem dL_law_171 : decode cL_law 171 = .ok (.iconst 1, 1) := by decide +kernel
theorem dL_law_172 : decode cL_law 172 = .ok (.iadd, 1) := by decide +kernel
theorem dL_law_173 : decode cL_law 173 = .ok (.iaload, 1) := by decide +kernel
theorem dL_law_174 : decode cL_law 174 = .ok (.aload_n 0, 1) := by decide +kernel
theorem dL_law_175 : decode cL_law 175 = .ok (.iload_n 3, 1) := by decide +kernel
theorem dL_law_176 : decode cL_law 176 = .ok (.iconst 2, 1) := by decide +kernel
theorem dL_law_177 : decode cL_law 177 = .ok (.iadd, 1) := by decide +kernel
theorem dL_law_178 : decode cL_law 178 = .ok (.iaload, 1) := by decide +kernel
theorem dL_law_179 : decode cL_law 179 = .ok (.aload_n 0, 1) := by decide +kernel
theorem dL_law_180 : decode cL_law 180 = .ok (.iload_n 3, 1) := by decide +kernel
theorem dL_law_181 : decode cL_law 181 = .ok (.iconst 3, 1) := by decide +kernel
theorem dL_law_182 : decode cL_law 182 = .ok (.iadd, 1) := by decide +kernel
theorem dL_law_183 : decode cL_law 183 = .ok (.iaload, 1) := by decide +kernel
theorem dL_law_184 : decode cL_law 184 = .ok (.aload_n 0, 1) := by decide +kernel
theorem dL_law_185 : decode cL_law 185 = .ok (.iload_n 3, 1) := by decide +kernel
theorem dL_law_186 : decode cL_law 186 = .ok (.iconst 4, 1) := by decide +kernel
theorem dL_law_187 : decode cL_law 187 = .ok (.iadd, 1) := by decide +kernel
theorem dL_law_188 : decode cL_law 188 = .ok (.iaload, 1) := by decide +kernel
theorem dL_law_189 : decode cL_law 189 = .ok (.aload_n 0, 1) := by decide +kernel
theorem dL_law_190 : decode cL_law 190 = .ok (.iload_n 3, 1) := by decide +kernel
theorem dL_law_191 : decode cL_law 191 = .ok (.iconst 5, 1) := by decide +kernel
theorem dL_law_192 : decode cL_law 192 = .ok (.iadd, 1) := by decide +kernel
theorem dL_law_193 : decode cL_law 193 = .ok (.iaload, 1) := by decide +kernel
theorem dL_law_194 : decode cL_law 194 = .ok (.invokevirtual 13, 3) := by decide +kernel
theorem dL_law_197 : decode cL_law 197 = .ok (.aload_n 2, 1) := by decide +kernel
theorem dL_law_198 : decode cL_law 198 = .ok (.aload_n 0, 1) := by decide +kernel
theorem dL_law_199 : decode cL_law 199 = .ok (.iload_n 3, 1) := by decide +kernel
theorem dL_law_200 : decode cL_law 200 = .ok (.iconst 1, 1) := by decide +kernel
theorem dL_law_201 : decode cL_law 201 = .ok (.iadd, 1) := by decide +kernel
theorem dL_law_202 : decode cL_law 202 = .ok (.iaload, 1) := by decide +kernel
theorem dL_law_203 : decode cL_law 203 = .ok (.aload_n 0, 1) := by decide +kernel
theorem dL_law_204 : decode cL_law 204 = .ok (.iload_n 3, 1) := by decide +kernel
theorem dL_law_205 : decode cL_law 205 = .ok (.iconst 2, 1) := by decide +kernel
theorem dL_law_206 : decode cL_law 206 = .ok (.iadd, 1) := by decide +kernel
theorem dL_law_207 : decode cL_law 207 = .ok (.iaload, 1) := by decide +kernel
theorem dL_law_208 : decode cL_law 208 = .ok (.aload_n 0, 1) := by decide +kernel
theorem dL_law_209 : decode cL_law 209 = .ok (.iload_n 3, 1) := by decide +kernel
theorem dL_law_210 : decode cL_law 210 = .ok (.iconst 3, 1) := by decide +kernel
theorem dL_law_211 : decode cL_law 211 = .ok (.iadd, 1) := by decide +kernel
theorem dL_law_212 : decode cL_law 212 = .ok (.iaload, 1) := by decide +kernel
theorem dL_law_213 : decode cL_law 213 = .ok (.aload_n 0, 1) := by decide +kernel
theorem dL_law_214 : decode cL_law 214 = .ok (.iload_n 3, 1) := by decide +kernel
theorem dL_law_215 : decode cL_law 215 = .ok (.iconst 4, 1) := by decide +kernel
theorem dL_law_216 : decode cL_law 216 = .ok (.iadd, 1) := by decide +kernel
theorem dL_law_217 : decode cL_law 217 = .ok (.iaload, 1) := by decide +kernel
theorem dL_law_218 : decode cL_law 218 = .ok (.aload_n 0, 1) := by decide +kernel
theorem dL_law_219 : decode cL_law 219 = .ok (.iload_n 3, 1) := by decide +kernel
theorem dL_law_220 : decode cL_law 220 = .ok (.iconst 5, 1) := by decide +kernel
theorem dL_law_221 : decode cL_law 221 = .ok (.iadd, 1) := by decide +kernel
theorem dL_law_222 : decode cL_law 222 = .ok (.iaload, 1) := by decide +kernel
theorem dL_law_223 : decode cL_law 223 = .ok (.invokevirtual 17, 3) := by decide +kernel
theorem dL_law_226 : decode cL_law 226 = .ok (.if_icmp .eq 1012, 3) := by decide +kernel
theorem dL_law_231 : decode cL_law 231 = .ok (.aload_n 1, 1) := by decide +kernel
theorem dL_law_232 : decode cL_law 232 = .ok (.aload_n 0, 1) := by decide +kernel
theorem dL_law_233 : decode cL_law 233 = .ok (.iload_n 3, 1) := by decide +kernel
theorem dL_law_234 : decode cL_law 234 = .ok (.iconst 1, 1) := by decide +kernel
theorem dL_law_235 : decode cL_law 235 = .ok (.iadd, 1) := by decide +kernel
theorem dL_law_236 : decode cL_law 236 = .ok (.iaload, 1) := by decide +kernel
theorem dL_law_237 : decode cL_law 237 = .ok (.invokevirtual 18, 3) := by decide +kernel
theorem dL_law_240 : decode cL_law 240 = .ok (.aload_n 2, 1) := by decide +kernel
theorem dL_law_241 : decode cL_law 241 = .ok (.aload_n 0, 1) := by decide +kernel
theorem dL_law_242 : decode cL_law 242 = .ok (.iload_n 3, 1) := by decide +kernel
theorem dL_law_243 : decode cL_law 243 = .ok (.iconst 1, 1) := by decide +kernel
theorem dL_law_244 : decode cL_law 244 = .ok (.iadd, 1) := by decide +kernel
theorem dL_law_245 : decode cL_law 245 = .ok (.iaload, 1) := by decide +kernel
theorem dL_law_246 : decode cL_law 246 = .ok (.invokevirtual 22, 3) := by decide +kernel
theorem dL_law_249 : decode cL_law 249 = .ok (.if_icmp .eq 989, 3) := by decide +kernel
theorem dL_law_254 : decode cL_law 254 = .ok (.aload_n 1, 1) := by decide +kernel
theorem dL_law_255 : decode cL_law 255 = .ok (.invokevirtual 23, 3) := by decide +kernel
theorem dL_law_258 : decode cL_law 258 = .ok (.aload_n 2, 1) := by decide +kernel
theorem dL_law_259 : decode cL_law 259 = .ok (.invokevirtual 27, 3) := by decide +kernel
theorem dL_law_262 : decode cL_law 262 = .ok (.if_icmp .eq 976, 3) := by decide +kernel
theorem dL_law_267 : decode cL_law 267 = .ok (.aload_n 1, 1) := by decide +kernel
theorem dL_law_268 : decode cL_law 268 = .ok (.invokevirtual 28, 3) := by decide +kernel
theorem dL_law_271 : decode cL_law 271 = .ok (.aload_n 2, 1) := by decide +kernel
theorem dL_law_272 : decode cL_law 272 = .ok (.invokevirtual 31, 3) := by decide +kernel
theorem dL_law_275 : decode cL_law 275 = .ok (.if_icmp .eq 963, 3) := by decide +kernel
theorem dL_law_280 : decode cL_law 280 = .ok (.aload_n 1, 1) := by decide +kernel
theorem dL_law_281 : decode cL_law 281 = .ok (.aload_n 0, 1) := by decide +kernel
theorem dL_law_282 : decode cL_law 282 = .ok (.iload_n 3, 1) := by decide +kernel
theorem dL_law_283 : decode cL_law 283 = .ok (.iconst 1, 1) := by decide +kernel
theorem dL_law_284 : decode cL_law 284 = .ok (.iadd, 1) := by decide +kernel
theorem dL_law_285 : decode cL_law 285 = .ok (.iaload, 1) := by decide +kernel
theorem dL_law_286 : decode cL_law 286 = .ok (.aload_n 0, 1) := by decide +kernel
theorem dL_law_287 : decode cL_law 287 = .ok (.iload_n 3, 1) := by decide +kernel
theorem dL_law_288 : decode cL_law 288 = .ok (.iconst 2, 1) := by decide +kernel
theorem dL_law_289 : decode cL_law 289 = .ok (.iadd, 1) := by decide +kernel
theorem dL_law_290 : decode cL_law 290 = .ok (.iaload, 1) := by decide +kernel
theorem dL_law_291 : decode cL_law 291 = .ok (.invokevirtual 32, 3) := by decide +kernel
theorem dL_law_294 : decode cL_law 294 = .ok (.aload_n 2, 1) := by decide +kernel
theorem dL_law_295 : decode cL_law 295 = .ok (.aload_n 0, 1) := by decide +kernel
theorem dL_law_296 : decode cL_law 296 = .ok (.iload_n 3, 1) := by decide +kernel
theorem dL_law_297 : decode cL_law 297 = .ok (.iconst 1, 1) := by decide +kernel
theorem dL_law_298 : decode cL_law 298 = .ok (.iadd, 1) := by decide +kernel
theorem dL_law_299 : decode cL_law 299 = .ok (.iaload, 1) := by decide +kernel
end
section
theorem dL_law_300 : decode cL_law 300 = .ok (.aload_n 0, 1) := by decide +kernel
theorem dL_law_301 : decode cL_law 301 = .ok (.iload_n 3, 1) := by decide +kernel
theorem dL_law_302 : decode cL_law 302 = .ok (.iconst 2, 1) := by decide +kernel
theorem dL_law_303 : decode cL_law 303 = .ok (.iadd, 1) := by decide +kernel
theorem dL_law_304 : decode cL_law 304 = .ok (.iaload, 1) := by decide +kernel
theorem dL_law_305 : decode cL_law 305 = .ok (.invokevirtual 36, 3) := by decide +kernel
theorem dL_law_308 : decode cL_law 308 = .ok (.if_icmp .eq 930, 3) := by decide +kernel
theorem dL_law_313 : decode cL_law 313 = .ok (.aload_n 1, 1) := by decide +kernel
theorem dL_law_314 : decode cL_law 314 = .ok (.aload_n 0, 1) := by decide +kernel
theorem dL_law_315 : decode cL_law 315 = .ok (.iload_n 3, 1) := by decide +kernel
theorem dL_law_316 : decode cL_law 316 = .ok (.iconst 1, 1) := by decide +kernel
theorem dL_law_317 : decode cL_law 317 = .ok (.iadd, 1) := by decide +kernel
theorem dL_law_318 : decode cL_law 318 = .ok (.iaload, 1) := by decide +kernel
theorem dL_law_319 : decode cL_law 319 = .ok (.aload_n 0, 1) := by decide +kernel
theorem dL_law_320 : decode cL_law 320 = .ok (.iload_n 3, 1) := by decide +kernel
theorem dL_law_321 : decode cL_law 321 = .ok (.iconst 2, 1) := by decide +kernel
theorem dL_law_322 : decode cL_law 322 = .ok (.iadd, 1) := by decide +kernel
theorem dL_law_323 : decode cL_law 323 = .ok (.iaload, 1) := by decide +kernel
theorem dL_law_324 : decode cL_law 324 = .ok (.invokevirtual 37, 3) := by decide +kernel
theorem dL_law_327 : decode cL_law 327 = .ok (.aload_n 2, 1) := by decide +kernel
theorem dL_law_328 : decode cL_law 328 = .ok (.aload_n 0, 1) := by decide +kernel
theorem dL_law_329 : decode cL_law 329 = .ok (.iload_n 3, 1) := by decide +kernel
theorem dL_law_330 : decode cL_law 330 = .ok (.iconst 1, 1) := by decide +kernel
theorem dL_law_331 : decode cL_law 331 = .ok (.iadd, 1) := by decide +kernel
theorem dL_law_332 : decode cL_law 332 = .ok (.iaload, 1) := by decide +kernel
theorem dL_law_333 : decode cL_law 333 = .ok (.aload_n 0, 1) := by decide +kernel
theorem dL_law_334 : decode cL_law 334 = .ok (.iload_n 3, 1) := by decide +kernel
theorem dL_law_335 : decode cL_law 335 = .ok (.iconst 2, 1) := by decide +kernel
theorem dL_law_336 : decode cL_law 336 = .ok (.iadd, 1) := by decide +kernel
theorem dL_law_337 : decode cL_law 337 = .ok (.iaload, 1) := by decide +kernel
theorem dL_law_338 : decode cL_law 338 = .ok (.invokevirtual 40, 3) := by decide +kernel
theorem dL_law_341 : decode cL_law 341 = .ok (.if_icmp .eq 897, 3) := by decide +kernel
theorem dL_law_346 : decode cL_law 346 = .ok (.aload_n 1, 1) := by decide +kernel
theorem dL_law_347 : decode cL_law 347 = .ok (.aload_n 0, 1) := by decide +kernel
theorem dL_law_348 : decode cL_law 348 = .ok (.iload_n 3, 1) := by decide +kernel
theorem dL_law_349 : decode cL_law 349 = .ok (.iconst 1, 1) := by decide +kernel
theorem dL_law_350 : decode cL_law 350 = .ok (.iadd, 1) := by decide +kernel
theorem dL_law_351 : decode cL_law 351 = .ok (.iaload, 1) := by decide +kernel
theorem dL_law_352 : decode cL_law 352 = .ok (.aload_n 0, 1) := by decide +kernel
theorem dL_law_353 : decode cL_law 353 = .ok (.iload_n 3, 1) := by decide +kernel
theorem dL_law_354 : decode cL_law 354 = .ok (.iconst 2, 1) := by decide +kernel
theorem dL_law_355 : decode cL_law 355 = .ok (.iadd, 1) := by decide +kernel
theorem dL_law_356 : decode cL_law 356 = .ok (.iaload, 1) := by decide +kernel
theorem dL_law_357 : decode cL_law 357 = .ok (.aload_n 0, 1) := by decide +kernel
theorem dL_law_358 : decode cL_law 358 = .ok (.iload_n 3, 1) := by decide +kernel
theorem dL_law_359 : decode cL_law 359 = .ok (.iconst 3, 1) := by decide +kernel
theorem dL_law_360 : decode cL_law 360 = .ok (.iadd, 1) := by decide +kernel
theorem dL_law_361 : decode cL_law 361 = .ok (.iaload, 1) := by decide +kernel
theorem dL_law_362 : decode cL_law 362 = .ok (.aload_n 0, 1) := by decide +kernel
theorem dL_law_363 : decode cL_law 363 = .ok (.iload_n 3, 1) := by decide +kernel
theorem dL_law_364 : decode cL_law 364 = .ok (.iconst 4, 1) := by decide +kernel
theorem dL_law_365 : decode cL_law 365 = .ok (.iadd, 1) := by decide +kernel
theorem dL_law_366 : decode cL_law 366 = .ok (.iaload, 1) := by decide +kernel
theorem dL_law_367 : decode cL_law 367 = .ok (.aload_n 0, 1) := by decide +kernel
theorem dL_law_368 : decode cL_law 368 = .ok (.iload_n 3, 1) := by decide +kernel
theorem dL_law_369 : decode cL_law 369 = .ok (.iconst 5, 1) := by decide +kernel
theorem dL_law_370 : decode cL_law 370 = .ok (.iadd, 1) := by decide +kernel
theorem dL_law_371 : decode cL_law 371 = .ok (.iaload, 1) := by decide +kernel
theorem dL_law_372 : decode cL_law 372 = .ok (.invokevirtual 41, 3) := by decide +kernel
theorem dL_law_375 : decode cL_law 375 = .ok (.aload_n 2, 1) := by decide +kernel
theorem dL_law_376 : decode cL_law 376 = .ok (.aload_n 0, 1) := by decide +kernel
theorem dL_law_377 : decode cL_law 377 = .ok (.iload_n 3, 1) := by decide +kernel
theorem dL_law_378 : decode cL_law 378 = .ok (.iconst 1, 1) := by decide +kernel
theorem dL_law_379 : decode cL_law 379 = .ok (.iadd, 1) := by decide +kernel
theorem dL_law_380 : decode cL_law 380 = .ok (.iaload, 1) := by decide +kernel
theorem dL_law_381 : decode cL_law 381 = .ok (.aload_n 0, 1) := by decide +kernel
theorem dL_law_382 : decode cL_law 382 = .ok (.iload_n 3, 1) := by decide +kernel
theorem dL_law_383 : decode cL_law 383 = .ok (.iconst 2, 1) := by decide +kernel
theorem dL_law_384 : decode cL_law 384 = .ok (.iadd, 1) := by decide +kernel
theorem dL_law_385 : decode cL_law 385 = .ok (.iaload, 1) := by decide +kernel
theorem dL_law_386 : decode cL_law 386 = .ok (.aload_n 0, 1) := by decide +kernel
theorem dL_law_387 : decode cL_law 387 = .ok (.iload_n 3, 1) := by decide +kernel
theorem dL_law_388 : decode cL_law 388 = .ok (.iconst 3, 1) := by decide +kernel
theorem dL_law_389 : decode cL_law 389 = .ok (.iadd, 1) := by decide +kernel
theorem dL_law_390 : decode cL_law 390 = .ok (.iaload, 1) := by decide +kernel
theorem dL_law_391 : decode cL_law 391 = .ok (.aload_n 0, 1) := by decide +kernel
theorem dL_law_392 : decode cL_law 392 = .ok (.iload_n 3, 1) := by decide +kernel
theorem dL_law_393 : decode cL_law 393 = .ok (.iconst 4, 1) := by decide +kernel
theorem dL_law_394 : decode cL_law 394 = .ok (.iadd, 1) := by decide +kernel
theorem dL_law_395 : decode cL_law 395 = .ok (.iaload, 1) := by decide +kernel
theorem dL_law_396 : decode cL_law 396 = .ok (.aload_n 0, 1) := by decide +kernel
theorem dL_law_397 : decode cL_law 397 = .ok (.iload_n 3, 1) := by decide +kernel
theorem dL_law_398 : decode cL_law 398 = .ok (.iconst 5, 1) := by decide +kernel
theorem dL_law_399 : decode cL_law 399 = .ok (.iadd, 1) := by decide +kernel
theorem dL_law_400 : decode cL_law 400 = .ok (.iaload, 1) := by decide +kernel
theorem dL_law_401 : decode cL_law 401 = .ok (.invokevirtual 44, 3) := by decide +kernel
theorem dL_law_404 : decode cL_law 404 = .ok (.if_icmp .eq 834, 3) := by decide +kernel
theorem dL_law_409 : decode cL_law 409 = .ok (.aload_n 1, 1) := by decide +kernel
theorem dL_law_410 : decode cL_law 410 = .ok (.aload_n 0, 1) := by decide +kernel
theorem dL_law_411 : decode cL_law 411 = .ok (.iload_n 3, 1) := by decide +kernel
theorem dL_law_412 : decode cL_law 412 = .ok (.iconst 1, 1) := by decide +kernel
theorem dL_law_413 : decode cL_law 413 = .ok (.iadd, 1) := by decide +kernel
theorem dL_law_414 : decode cL_law 414 = .ok (.iaload, 1) := by decide +kernel
theorem dL_law_415 : decode cL_law 415 = .ok (.invokevirtual 45, 3) := by decide +kernel
theorem dL_law_418 : decode cL_law 418 = .ok (.aload_n 2, 1) := by decide +kernel
theorem dL_law_419 : decode cL_law 419 = .ok (.aload_n 0, 1) := by decide +kernel
theorem dL_law_420 : decode cL_law 420 = .ok (.iload_n 3, 1) := by decide +kernel
theorem dL_law_421 : decode cL_law 421 = .ok (.iconst 1, 1) := by decide +kernel
theorem dL_law_422 : decode cL_law 422 = .ok (.iadd, 1) := by decide +kernel
theorem dL_law_423 : decode cL_law 423 = .ok (.iaload, 1) := by decide +kernel
theorem dL_law_424 : decode cL_law 424 = .ok (.invokevirtual 48, 3) := by decide +kernel
theorem dL_law_427 : decode cL_law 427 = .ok (.if_icmp .eq 811, 3) := by decide +kernel
theorem dL_law_432 : decode cL_law 432 = .ok (.aload_n 1, 1) := by decide +kernel
theorem dL_law_433 : decode cL_law 433 = .ok (.aload_n 0, 1) := by decide +kernel
theorem dL_law_434 : decode cL_law 434 = .ok (.iload_n 3, 1) := by decide +kernel
theorem dL_law_435 : decode cL_law 435 = .ok (.iconst 1, 1) := by decide +kernel
theorem dL_law_436 : decode cL_law 436 = .ok (.iadd, 1) := by decide +kernel
theorem dL_law_437 : decode cL_law 437 = .ok (.iaload, 1) := by decide +kernel
theorem dL_law_438 : decode cL_law 438 = .ok (.aload_n 0, 1) := by decide +kernel
theorem dL_law_439 : decode cL_law 439 = .ok (.iload_n 3, 1) := by decide +kernel
theorem dL_law_440 : decode cL_law 440 = .ok (.iconst 2, 1) := by decide +kernel
theorem dL_law_441 : decode cL_law 441 = .ok (.iadd, 1) := by decide +kernel
theorem dL_law_442 : decode cL_law 442 = .ok (.iaload, 1) := by decide +kernel
theorem dL_law_443 : decode cL_law 443 = .ok (.aload_n 0, 1) := by decide +kernel
theorem dL_law_444 : decode cL_law 444 = .ok (.iload_n 3, 1) := by decide +kernel
theorem dL_law_445 : decode cL_law 445 = .ok (.iconst 3, 1) := by decide +kernel
theorem dL_law_446 : decode cL_law 446 = .ok (.iadd, 1) := by decide +kernel
theorem dL_law_447 : decode cL_law 447 = .ok (.iaload, 1) := by decide +kernel
theorem dL_law_448 : decode cL_law 448 = .ok (.aload_n 0, 1) := by decide +kernel
theorem dL_law_449 : decode cL_law 449 = .ok (.iload_n 3, 1) := by decide +kernel
end
section
theorem dL_law_450 : decode cL_law 450 = .ok (.iconst 4, 1) := by decide +kernel
theorem dL_law_451 : decode cL_law 451 = .ok (.iadd, 1) := by decide +kernel
theorem dL_law_452 : decode cL_law 452 = .ok (.iaload, 1) := by decide +kernel
theorem dL_law_453 : decode cL_law 453 = .ok (.invokevirtual 49, 3) := by decide +kernel
theorem dL_law_456 : decode cL_law 456 = .ok (.aload_n 2, 1) := by decide +kernel
theorem dL_law_457 : decode cL_law 457 = .ok (.aload_n 0, 1) := by decide +kernel
theorem dL_law_458 : decode cL_law 458 = .ok (.iload_n 3, 1) := by decide +kernel
theorem dL_law_459 : decode cL_law 459 = .ok (.iconst 1, 1) := by decide +kernel
theorem dL_law_460 : decode cL_law 460 = .ok (.iadd, 1) := by decide +kernel
theorem dL_law_461 : decode cL_law 461 = .ok (.iaload, 1) := by decide +kernel
theorem dL_law_462 : decode cL_law 462 = .ok (.aload_n 0, 1) := by decide +kernel
theorem dL_law_463 : decode cL_law 463 = .ok (.iload_n 3, 1) := by decide +kernel
theorem dL_law_464 : decode cL_law 464 = .ok (.iconst 2, 1) := by decide +kernel
theorem dL_law_465 : decode cL_law 465 = .ok (.iadd, 1) := by decide +kernel
theorem dL_law_466 : decode cL_law 466 = .ok (.iaload, 1) := by decide +kernel
theorem dL_law_467 : decode cL_law 467 = .ok (.aload_n 0, 1) := by decide +kernel
theorem dL_law_468 : decode cL_law 468 = .ok (.iload_n 3, 1) := by decide +kernel
theorem dL_law_469 : decode cL_law 469 = .ok (.iconst 3, 1) := by decide +kernel
theorem dL_law_470 : decode cL_law 470 = .ok (.iadd, 1) := by decide +kernel
theorem dL_law_471 : decode cL_law 471 = .ok (.iaload, 1) := by decide +kernel
theorem dL_law_472 : decode cL_law 472 = .ok (.aload_n 0, 1) := by decide +kernel
theorem dL_law_473 : decode cL_law 473 = .ok (.iload_n 3, 1) := by decide +kernel
theorem dL_law_474 : decode cL_law 474 = .ok (.iconst 4, 1) := by decide +kernel
theorem dL_law_475 : decode cL_law 475 = .ok (.iadd, 1) := by decide +kernel
theorem dL_law_476 : decode cL_law 476 = .ok (.iaload, 1) := by decide +kernel
theorem dL_law_477 : decode cL_law 477 = .ok (.invokevirtual 53, 3) := by decide +kernel
theorem dL_law_480 : decode cL_law 480 = .ok (.if_icmp .eq 758, 3) := by decide +kernel
theorem dL_law_485 : decode cL_law 485 = .ok (.aload_n 1, 1) := by decide +kernel
theorem dL_law_486 : decode cL_law 486 = .ok (.aload_n 0, 1) := by decide +kernel
theorem dL_law_487 : decode cL_law 487 = .ok (.iload_n 3, 1) := by decide +kernel
theorem dL_law_488 : decode cL_law 488 = .ok (.iconst 1, 1) := by decide +kernel
theorem dL_law_489 : decode cL_law 489 = .ok (.iadd, 1) := by decide +kernel
theorem dL_law_490 : decode cL_law 490 = .ok (.iaload, 1) := by decide +kernel
theorem dL_law_491 : decode cL_law 491 = .ok (.aload_n 0, 1) := by decide +kernel
theorem dL_law_492 : decode cL_law 492 = .ok (.iload_n 3, 1) := by decide +kernel
theorem dL_law_493 : decode cL_law 493 = .ok (.iconst 2, 1) := by decide +kernel
theorem dL_law_494 : decode cL_law 494 = .ok (.iadd, 1) := by decide +kernel
theorem dL_law_495 : decode cL_law 495 = .ok (.iaload, 1) := by decide +kernel
theorem dL_law_496 : decode cL_law 496 = .ok (.aload_n 0, 1) := by decide +kernel
theorem dL_law_497 : decode cL_law 497 = .ok (.iload_n 3, 1) := by decide +kernel
theorem dL_law_498 : decode cL_law 498 = .ok (.iconst 3, 1) := by decide +kernel
theorem dL_law_499 : decode cL_law 499 = .ok (.iadd, 1) := by decide +kernel
theorem dL_law_500 : decode cL_law 500 = .ok (.iaload, 1) := by decide +kernel
theorem dL_law_501 : decode cL_law 501 = .ok (.invokevirtual 54, 3) := by decide +kernel
theorem dL_law_504 : decode cL_law 504 = .ok (.aload_n 2, 1) := by decide +kernel
theorem dL_law_505 : decode cL_law 505 = .ok (.aload_n 0, 1) := by decide +kernel
theorem dL_law_506 : decode cL_law 506 = .ok (.iload_n 3, 1) := by decide +kernel
theorem dL_law_507 : decode cL_law 507 = .ok (.iconst 1, 1) := by decide +kernel
theorem dL_law_508 : decode cL_law 508 = .ok (.iadd, 1) := by decide +kernel
theorem dL_law_509 : decode cL_law 509 = .ok (.iaload, 1) := by decide +kernel
theorem dL_law_510 : decode cL_law 510 = .ok (.aload_n 0, 1) := by decide +kernel
theorem dL_law_511 : decode cL_law 511 = .ok (.iload_n 3, 1) := by decide +kernel
theorem dL_law_512 : decode cL_law 512 = .ok (.iconst 2, 1) := by decide +kernel
theorem dL_law_513 : decode cL_law 513 = .ok (.iadd, 1) := by decide +kernel
theorem dL_law_514 : decode cL_law 514 = .ok (.iaload, 1) := by decide +kernel
theorem dL_law_515 : decode cL_law 515 = .ok (.aload_n 0, 1) := by decide +kernel
theorem dL_law_516 : decode cL_law 516 = .ok (.iload_n 3, 1) := by decide +kernel
theorem dL_law_517 : decode cL_law 517 = .ok (.iconst 3, 1) := by decide +kernel
theorem dL_law_518 : decode cL_law 518 = .ok (.iadd, 1) := by decide +kernel
theorem dL_law_519 : decode cL_law 519 = .ok (.iaload, 1) := by decide +kernel
theorem dL_law_520 : decode cL_law 520 = .ok (.invokevirtual 58, 3) := by decide +kernel
theorem dL_law_523 : decode cL_law 523 = .ok (.if_icmp .eq 715, 3) := by decide +kernel
theorem dL_law_528 : decode cL_law 528 = .ok (.aload_n 1, 1) := by decide +kernel
theorem dL_law_529 : decode cL_law 529 = .ok (.aload_n 0, 1) := by decide +kernel
theorem dL_law_530 : decode cL_law 530 = .ok (.iload_n 3, 1) := by decide +kernel
theorem dL_law_531 : decode cL_law 531 = .ok (.iconst 1, 1) := by decide +kernel
theorem dL_law_532 : decode cL_law 532 = .ok (.iadd, 1) := by decide +kernel
theorem dL_law_533 : decode cL_law 533 = .ok (.iaload, 1) := by decide +kernel
theorem dL_law_534 : decode cL_law 534 = .ok (.aload_n 0, 1) := by decide +kernel
theorem dL_law_535 : decode cL_law 535 = .ok (.iload_n 3, 1) := by decide +kernel
theorem dL_law_536 : decode cL_law 536 = .ok (.iconst 2, 1) := by decide +kernel
theorem dL_law_537 : decode cL_law 537 = .ok (.iadd, 1) := by decide +kernel
theorem dL_law_538 : decode cL_law 538 = .ok (.iaload, 1) := by decide +kernel
theorem dL_law_539 : decode cL_law 539 = .ok (.aload_n 0, 1) := by decide +kernel
theorem dL_law_540 : decode cL_law 540 = .ok (.iload_n 3, 1) := by decide +kernel
theorem dL_law_541 : decode cL_law 541 = .ok (.iconst 3, 1) := by decide +kernel
theorem dL_law_542 : decode cL_law 542 = .ok (.iadd, 1) := by decide +kernel
theorem dL_law_543 : decode cL_law 543 = .ok (.iaload, 1) := by decide +kernel
theorem dL_law_544 : decode cL_law 544 = .ok (.invokevirtual 59, 3) := by decide +kernel
theorem dL_law_547 : decode cL_law 547 = .ok (.aload_n 2, 1) := by decide +kernel
theorem dL_law_548 : decode cL_law 548 = .ok (.aload_n 0, 1) := by decide +kernel
theorem dL_law_549 : decode cL_law 549 = .ok (.iload_n 3, 1) := by decide +kernel
theorem dL_law_550 : decode cL_law 550 = .ok (.iconst 1, 1) := by decide +kernel
theorem dL_law_551 : decode cL_law 551 = .ok (.iadd, 1) := by decide +kernel
theorem dL_law_552 : decode cL_law 552 = .ok (.iaload, 1) := by decide +kernel
theorem dL_law_553 : decode cL_law 553 = .ok (.aload_n 0, 1) := by decide +kernel
theorem dL_law_554 : decode cL_law 554 = .ok (.iload_n 3, 1) := by decide +kernel
theorem dL_law_555 : decode cL_law 555 = .ok (.iconst 2, 1) := by decide +kernel
theorem dL_law_556 : decode cL_law 556 = .ok (.iadd, 1) := by decide +kernel
theorem dL_law_557 : decode cL_law 557 = .ok (.iaload, 1) := by decide +kernel
theorem dL_law_558 : decode cL_law 558 = .ok (.aload_n 0, 1) := by decide +kernel
theorem dL_law_559 : decode cL_law 559 = .ok (.iload_n 3, 1) := by decide +kernel
theorem dL_law_560 : decode cL_law 560 = .ok (.iconst 3, 1) := by decide +kernel
theorem dL_law_561 : decode cL_law 561 = .ok (.iadd, 1) := by decide +kernel
theorem dL_law_562 : decode cL_law 562 = .ok (.iaload, 1) := by decide +kernel
theorem dL_law_563 : decode cL_law 563 = .ok (.invokevirtual 62, 3) := by decide +kernel
theorem dL_law_566 : decode cL_law 566 = .ok (.if_icmp .eq 672, 3) := by decide +kernel
theorem dL_law_571 : decode cL_law 571 = .ok (.aload_n 1, 1) := by decide +kernel
theorem dL_law_572 : decode cL_law 572 = .ok (.aload_n 0, 1) := by decide +kernel
theorem dL_law_573 : decode cL_law 573 = .ok (.iload_n 3, 1) := by decide +kernel
theorem dL_law_574 : decode cL_law 574 = .ok (.iconst 1, 1) := by decide +kernel
theorem dL_law_575 : decode cL_law 575 = .ok (.iadd, 1) := by decide +kernel
theorem dL_law_576 : decode cL_law 576 = .ok (.iaload, 1) := by decide +kernel
theorem dL_law_577 : decode cL_law 577 = .ok (.aload_n 0, 1) := by decide +kernel
theorem dL_law_578 : decode cL_law 578 = .ok (.iload_n 3, 1) := by decide +kernel
theorem dL_law_579 : decode cL_law 579 = .ok (.iconst 2, 1) := by decide +kernel
theorem dL_law_580 : decode cL_law 580 = .ok (.iadd, 1) := by decide +kernel
theorem dL_law_581 : decode cL_law 581 = .ok (.iaload, 1) := by decide +kernel
theorem dL_law_582 : decode cL_law 582 = .ok (.invokevirtual 63, 3) := by decide +kernel
theorem dL_law_585 : decode cL_law 585 = .ok (.aload_n 2, 1) := by decide +kernel
theorem dL_law_586 : decode cL_law 586 = .ok (.aload_n 0, 1) := by decide +kernel
theorem dL_law_587 : decode cL_law 587 = .ok (.iload_n 3, 1) := by decide +kernel
theorem dL_law_588 : decode cL_law 588 = .ok (.iconst 1, 1) := by decide +kernel
theorem dL_law_589 : decode cL_law 589 = .ok (.iadd, 1) := by decide +kernel
theorem dL_law_590 : decode cL_law 590 = .ok (.iaload, 1) := by decide +kernel
theorem dL_law_591 : decode cL_law 591 = .ok (.aload_n 0, 1) := by decide +kernel
theorem dL_law_592 : decode cL_law 592 = .ok (.iload_n 3, 1) := by decide +kernel
theorem dL_law_593 : decode cL_law 593 = .ok (.iconst 2, 1) := by decide +kernel
theorem dL_law_594 : decode cL_law 594 = .ok (.iadd, 1) := by decide +kernel
theorem dL_law_595 : decode cL_law 595 = .ok (.iaload, 1) := by decide +kernel
end
section
theorem dL_law_596 : decode cL_law 596 = .ok (.invokevirtual 66, 3) := by decide +kernel
theorem dL_law_599 : decode cL_law 599 = .ok (.if_icmp .eq 639, 3) := by decide +kernel
theorem dL_law_604 : decode cL_law 604 = .ok (.aload_n 1, 1) := by decide +kernel
theorem dL_law_605 : decode cL_law 605 = .ok (.aload_n 0, 1) := by decide +kernel
theorem dL_law_606 : decode cL_law 606 = .ok (.iload_n 3, 1) := by decide +kernel
theorem dL_law_607 : decode cL_law 607 = .ok (.iconst 1, 1) := by decide +kernel
theorem dL_law_608 : decode cL_law 608 = .ok (.iadd, 1) := by decide +kernel
theorem dL_law_609 : decode cL_law 609 = .ok (.iaload, 1) := by decide +kernel
theorem dL_law_610 : decode cL_law 610 = .ok (.aload_n 0, 1) := by decide +kernel
theorem dL_law_611 : decode cL_law 611 = .ok (.iload_n 3, 1) := by decide +kernel
theorem dL_law_612 : decode cL_law 612 = .ok (.iconst 2, 1) := by decide +kernel
theorem dL_law_613 : decode cL_law 613 = .ok (.iadd, 1) := by decide +kernel
theorem dL_law_614 : decode cL_law 614 = .ok (.iaload, 1) := by decide +kernel
theorem dL_law_615 : decode cL_law 615 = .ok (.aload_n 0, 1) := by decide +kernel
theorem dL_law_616 : decode cL_law 616 = .ok (.iload_n 3, 1) := by decide +kernel
theorem dL_law_617 : decode cL_law 617 = .ok (.iconst 3, 1) := by decide +kernel
theorem dL_law_618 : decode cL_law 618 = .ok (.iadd, 1) := by decide +kernel
theorem dL_law_619 : decode cL_law 619 = .ok (.iaload, 1) := by decide +kernel
theorem dL_law_620 : decode cL_law 620 = .ok (.invokevirtual 67, 3) := by decide +kernel
theorem dL_law_623 : decode cL_law 623 = .ok (.aload_n 2, 1) := by decide +kernel
theorem dL_law_624 : decode cL_law 624 = .ok (.aload_n 0, 1) := by decide +kernel
theorem dL_law_625 : decode cL_law 625 = .ok (.iload_n 3, 1) := by decide +kernel
theorem dL_law_626 : decode cL_law 626 = .ok (.iconst 1, 1) := by decide +kernel
theorem dL_law_627 : decode cL_law 627 = .ok (.iadd, 1) := by decide +kernel
theorem dL_law_628 : decode cL_law 628 = .ok (.iaload, 1) := by decide +kernel
theorem dL_law_629 : decode cL_law 629 = .ok (.aload_n 0, 1) := by decide +kernel
theorem dL_law_630 : decode cL_law 630 = .ok (.iload_n 3, 1) := by decide +kernel
theorem dL_law_631 : decode cL_law 631 = .ok (.iconst 2, 1) := by decide +kernel
theorem dL_law_632 : decode cL_law 632 = .ok (.iadd, 1) := by decide +kernel
theorem dL_law_633 : decode cL_law 633 = .ok (.iaload, 1) := by decide +kernel
theorem dL_law_634 : decode cL_law 634 = .ok (.aload_n 0, 1) := by decide +kernel
theorem dL_law_635 : decode cL_law 635 = .ok (.iload_n 3, 1) := by decide +kernel
theorem dL_law_636 : decode cL_law 636 = .ok (.iconst 3, 1) := by decide +kernel
theorem dL_law_637 : decode cL_law 637 = .ok (.iadd, 1) := by decide +kernel
theorem dL_law_638 : decode cL_law 638 = .ok (.iaload, 1) := by decide +kernel
theorem dL_law_639 : decode cL_law 639 = .ok (.invokevirtual 70, 3) := by decide +kernel
theorem dL_law_642 : decode cL_law 642 = .ok (.if_icmp .eq 596, 3) := by decide +kernel
theorem dL_law_647 : decode cL_law 647 = .ok (.aload_n 1, 1) := by decide +kernel
theorem dL_law_648 : decode cL_law 648 = .ok (.aload_n 0, 1) := by decide +kernel
theorem dL_law_649 : decode cL_law 649 = .ok (.iload_n 3, 1) := by decide +kernel
theorem dL_law_650 : decode cL_law 650 = .ok (.iconst 1, 1) := by decide +kernel
theorem dL_law_651 : decode cL_law 651 = .ok (.iadd, 1) := by decide +kernel
theorem dL_law_652 : decode cL_law 652 = .ok (.iaload, 1) := by decide +kernel
theorem dL_law_653 : decode cL_law 653 = .ok (.aload_n 0, 1) := by decide +kernel
theorem dL_law_654 : decode cL_law 654 = .ok (.iload_n 3, 1) := by decide +kernel
theorem dL_law_655 : decode cL_law 655 = .ok (.iconst 2, 1) := by decide +kernel
theorem dL_law_656 : decode cL_law 656 = .ok (.iadd, 1) := by decide +kernel
theorem dL_law_657 : decode cL_law 657 = .ok (.iaload, 1) := by decide +kernel
theorem dL_law_658 : decode cL_law 658 = .ok (.invokevirtual 71, 3) := by decide +kernel
theorem dL_law_661 : decode cL_law 661 = .ok (.aload_n 2, 1) := by decide +kernel
theorem dL_law_662 : decode cL_law 662 = .ok (.aload_n 0, 1) := by decide +kernel
theorem dL_law_663 : decode cL_law 663 = .ok (.iload_n 3, 1) := by decide +kernel
theorem dL_law_664 : decode cL_law 664 = .ok (.iconst 1, 1) := by decide +kernel
theorem dL_law_665 : decode cL_law 665 = .ok (.iadd, 1) := by decide +kernel
theorem dL_law_666 : decode cL_law 666 = .ok (.iaload, 1) := by decide +kernel
theorem dL_law_667 : decode cL_law 667 = .ok (.aload_n 0, 1) := by decide +kernel
theorem dL_law_668 : decode cL_law 668 = .ok (.iload_n 3, 1) := by decide +kernel
theorem dL_law_669 : decode cL_law 669 = .ok (.iconst 2, 1) := by decide +kernel
theorem dL_law_670 : decode cL_law 670 = .ok (.iadd, 1) := by decide +kernel
theorem dL_law_671 : decode cL_law 671 = .ok (.iaload, 1) := by decide +kernel
theorem dL_law_672 : decode cL_law 672 = .ok (.invokevirtual 74, 3) := by decide +kernel
theorem dL_law_675 : decode cL_law 675 = .ok (.if_icmp .eq 563, 3) := by decide +kernel
theorem dL_law_680 : decode cL_law 680 = .ok (.aload_n 1, 1) := by decide +kernel
theorem dL_law_681 : decode cL_law 681 = .ok (.aload_n 0, 1) := by decide +kernel
theorem dL_law_682 : decode cL_law 682 = .ok (.iload_n 3, 1) := by decide +kernel
theorem dL_law_683 : decode cL_law 683 = .ok (.iconst 1, 1) := by decide +kernel
theorem dL_law_684 : decode cL_law 684 = .ok (.iadd, 1) := by decide +kernel
theorem dL_law_685 : decode cL_law 685 = .ok (.iaload, 1) := by decide +kernel
theorem dL_law_686 : decode cL_law 686 = .ok (.aload_n 0, 1) := by decide +kernel
theorem dL_law_687 : decode cL_law 687 = .ok (.iload_n 3, 1) := by decide +kernel
theorem dL_law_688 : decode cL_law 688 = .ok (.iconst 2, 1) := by decide +kernel
theorem dL_law_689 : decode cL_law 689 = .ok (.iadd, 1) := by decide +kernel
theorem dL_law_690 : decode cL_law 690 = .ok (.iaload, 1) := by decide +kernel
theorem dL_law_691 : decode cL_law 691 = .ok (.aload_n 0, 1) := by decide +kernel
theorem dL_law_692 : decode cL_law 692 = .ok (.iload_n 3, 1) := by decide +kernel
theorem dL_law_693 : decode cL_law 693 = .ok (.iconst 3, 1) := by decide +kernel
theorem dL_law_694 : decode cL_law 694 = .ok (.iadd, 1) := by decide +kernel
theorem dL_law_695 : decode cL_law 695 = .ok (.iaload, 1) := by decide +kernel
theorem dL_law_696 : decode cL_law 696 = .ok (.aload_n 0, 1) := by decide +kernel
theorem dL_law_697 : decode cL_law 697 = .ok (.iload_n 3, 1) := by decide +kernel
theorem dL_law_698 : decode cL_law 698 = .ok (.iconst 4, 1) := by decide +kernel
theorem dL_law_699 : decode cL_law 699 = .ok (.iadd, 1) := by decide +kernel
theorem dL_law_700 : decode cL_law 700 = .ok (.iaload, 1) := by decide +kernel
theorem dL_law_701 : decode cL_law 701 = .ok (.invokevirtual 75, 3) := by decide +kernel
theorem dL_law_704 : decode cL_law 704 = .ok (.aload_n 2, 1) := by decide +kernel
theorem dL_law_705 : decode cL_law 705 = .ok (.aload_n 0, 1) := by decide +kernel
theorem dL_law_706 : decode cL_law 706 = .ok (.iload_n 3, 1) := by decide +kernel
theorem dL_law_707 : decode cL_law 707 = .ok (.iconst 1, 1) := by decide +kernel
theorem dL_law_708 : decode cL_law 708 = .ok (.iadd, 1) := by decide +kernel
theorem dL_law_709 : decode cL_law 709 = .ok (.iaload, 1) := by decide +kernel
theorem dL_law_710 : decode cL_law 710 = .ok (.aload_n 0, 1) := by decide +kernel
theorem dL_law_711 : decode cL_law 711 = .ok (.iload_n 3, 1) := by decide +kernel
theorem dL_law_712 : decode cL_law 712 = .ok (.iconst 2, 1) := by decide +kernel
theorem dL_law_713 : decode cL_law 713 = .ok (.iadd, 1) := by decide +kernel
theorem dL_law_714 : decode cL_law 714 = .ok (.iaload, 1) := by decide +kernel
theorem dL_law_715 : decode cL_law 715 = .ok (.aload_n 0, 1) := by decide +kernel
theorem dL_law_716 : decode cL_law 716 = .ok (.iload_n 3, 1) := by decide +kernel
theorem dL_law_717 : decode cL_law 717 = .ok (.iconst 3, 1) := by decide +kernel
theorem dL_law_718 : decode cL_law 718 = .ok (.iadd, 1) := by decide +kernel
theorem dL_law_719 : decode cL_law 719 = .ok (.iaload, 1) := by decide +kernel
theorem dL_law_720 : decode cL_law 720 = .ok (.aload_n 0, 1) := by decide +kernel
theorem dL_law_721 : decode cL_law 721 = .ok (.iload_n 3, 1) := by decide +kernel
theorem dL_law_722 : decode cL_law 722 = .ok (.iconst 4, 1) := by decide +kernel
theorem dL_law_723 : decode cL_law 723 = .ok (.iadd, 1) := by decide +kernel
theorem dL_law_724 : decode cL_law 724 = .ok (.iaload, 1) := by decide +kernel
theorem dL_law_725 : decode cL_law 725 = .ok (.invokevirtual 78, 3) := by decide +kernel
theorem dL_law_728 : decode cL_law 728 = .ok (.if_icmp .eq 510, 3) := by decide +kernel
theorem dL_law_733 : decode cL_law 733 = .ok (.aload_n 1, 1) := by decide +kernel
theorem dL_law_734 : decode cL_law 734 = .ok (.aload_n 0, 1) := by decide +kernel
theorem dL_law_735 : decode cL_law 735 = .ok (.iload_n 3, 1) := by decide +kernel
theorem dL_law_736 : decode cL_law 736 = .ok (.iconst 1, 1) := by decide +kernel
theorem dL_law_737 : decode cL_law 737 = .ok (.iadd, 1) := by decide +kernel
theorem dL_law_738 : decode cL_law 738 = .ok (.iaload, 1) := by decide +kernel
theorem dL_law_739 : decode cL_law 739 = .ok (.aload_n 0, 1) := by decide +kernel
theorem dL_law_740 : decode cL_law 740 = .ok (.iload_n 3, 1) := by decide +kernel
theorem dL_law_741 : decode cL_law 741 = .ok (.iconst 2, 1) := by decide +kernel
theorem dL_law_742 : decode cL_law 742 = .ok (.iadd, 1) := by decide +kernel
theorem dL_law_743 : decode cL_law 743 = .ok (.iaload, 1) := by decide +kernel
theorem dL_law_744 : decode cL_law 744 = .ok (.invokevirtual 79, 3) := by decide +kernel
theorem dL_law_747 : decode cL_law 747 = .ok (.aload_n 2, 1) := by decide +kernel
end
section
theorem dL_law_748 : decode cL_law 748 = .ok (.aload_n 0, 1) := by decide +kernel
theorem dL_law_749 : decode cL_law 749 = .ok (.iload_n 3, 1) := by decide +kernel
theorem dL_law_750 : decode cL_law 750 = .ok (.iconst 1, 1) := by decide +kernel
theorem dL_law_751 : decode cL_law 751 = .ok (.iadd, 1) := by decide +kernel
theorem dL_law_752 : decode cL_law 752 = .ok (.iaload, 1) := by decide +kernel
theorem dL_law_753 : decode cL_law 753 = .ok (.aload_n 0, 1) := by decide +kernel
theorem dL_law_754 : decode cL_law 754 = .ok (.iload_n 3, 1) := by decide +kernel
theorem dL_law_755 : decode cL_law 755 = .ok (.iconst 2, 1) := by decide +kernel
theorem dL_law_756 : decode cL_law 756 = .ok (.iadd, 1) := by decide +kernel
theorem dL_law_757 : decode cL_law 757 = .ok (.iaload, 1) := by decide +kernel
theorem dL_law_758 : decode cL_law 758 = .ok (.invokevirtual 82, 3) := by decide +kernel
theorem dL_law_761 : decode cL_law 761 = .ok (.if_icmp .eq 477, 3) := by decide +kernel
theorem dL_law_766 : decode cL_law 766 = .ok (.aload_n 1, 1) := by decide +kernel
theorem dL_law_767 : decode cL_law 767 = .ok (.aload_n 0, 1) := by decide +kernel
theorem dL_law_768 : decode cL_law 768 = .ok (.iload_n 3, 1) := by decide +kernel
theorem dL_law_769 : decode cL_law 769 = .ok (.iconst 1, 1) := by decide +kernel
theorem dL_law_770 : decode cL_law 770 = .ok (.iadd, 1) := by decide +kernel
theorem dL_law_771 : decode cL_law 771 = .ok (.iaload, 1) := by decide +kernel
theorem dL_law_772 : decode cL_law 772 = .ok (.aload_n 0, 1) := by decide +kernel
theorem dL_law_773 : decode cL_law 773 = .ok (.iload_n 3, 1) := by decide +kernel
theorem dL_law_774 : decode cL_law 774 = .ok (.iconst 2, 1) := by decide +kernel
theorem dL_law_775 : decode cL_law 775 = .ok (.iadd, 1) := by decide +kernel
theorem dL_law_776 : decode cL_law 776 = .ok (.iaload, 1) := by decide +kernel
theorem dL_law_777 : decode cL_law 777 = .ok (.aload_n 0, 1) := by decide +kernel
theorem dL_law_778 : decode cL_law 778 = .ok (.iload_n 3, 1) := by decide +kernel
theorem dL_law_779 : decode cL_law 779 = .ok (.iconst 3, 1) := by decide +kernel
theorem dL_law_780 : decode cL_law 780 = .ok (.iadd, 1) := by decide +kernel
theorem dL_law_781 : decode cL_law 781 = .ok (.iaload, 1) := by decide +kernel
theorem dL_law_782 : decode cL_law 782 = .ok (.invokevirtual 83, 3) := by decide +kernel
theorem dL_law_785 : decode cL_law 785 = .ok (.aload_n 2, 1) := by decide +kernel
theorem dL_law_786 : decode cL_law 786 = .ok (.aload_n 0, 1) := by decide +kernel
theorem dL_law_787 : decode cL_law 787 = .ok (.iload_n 3, 1) := by decide +kernel
theorem dL_law_788 : decode cL_law 788 = .ok (.iconst 1, 1) := by decide +kernel
theorem dL_law_789 : decode cL_law 789 = .ok (.iadd, 1) := by decide +kernel
theorem dL_law_790 : decode cL_law 790 = .ok (.iaload, 1) := by decide +kernel
theorem dL_law_791 : decode cL_law 791 = .ok (.aload_n 0, 1) := by decide +kernel
theorem dL_law_792 : decode cL_law 792 = .ok (.iload_n 3, 1) := by decide +kernel
theorem dL_law_793 : decode cL_law 793 = .ok (.iconst 2, 1) := by decide +kernel
theorem dL_law_794 : decode cL_law 794 = .ok (.iadd, 1) := by decide +kernel
theorem dL_law_795 : decode cL_law 795 = .ok (.iaload, 1) := by decide +kernel
theorem dL_law_796 : decode cL_law 796 = .ok (.aload_n 0, 1) := by decide +kernel
theorem dL_law_797 : decode cL_law 797 = .ok (.iload_n 3, 1) := by decide +kernel
theorem dL_law_798 : decode cL_law 798 = .ok (.iconst 3, 1) := by decide +kernel
theorem dL_law_799 : decode cL_law 799 = .ok (.iadd, 1) := by decide +kernel
theorem dL_law_800 : decode cL_law 800 = .ok (.iaload, 1) := by decide +kernel
theorem dL_law_801 : decode cL_law 801 = .ok (.invokevirtual 86, 3) := by decide +kernel
theorem dL_law_804 : decode cL_law 804 = .ok (.if_icmp .eq 434, 3) := by decide +kernel
theorem dL_law_809 : decode cL_law 809 = .ok (.aload_n 1, 1) := by decide +kernel
theorem dL_law_810 : decode cL_law 810 = .ok (.aload_n 0, 1) := by decide +kernel
theorem dL_law_811 : decode cL_law 811 = .ok (.iload_n 3, 1) := by decide +kernel
theorem dL_law_812 : decode cL_law 812 = .ok (.iconst 1, 1) := by decide +kernel
theorem dL_law_813 : decode cL_law 813 = .ok (.iadd, 1) := by decide +kernel
theorem dL_law_814 : decode cL_law 814 = .ok (.iaload, 1) := by decide +kernel
theorem dL_law_815 : decode cL_law 815 = .ok (.invokevirtual 87, 3) := by decide +kernel
theorem dL_law_818 : decode cL_law 818 = .ok (.aload_n 2, 1) := by decide +kernel
theorem dL_law_819 : decode cL_law 819 = .ok (.aload_n 0, 1) := by decide +kernel
theorem dL_law_820 : decode cL_law 820 = .ok (.iload_n 3, 1) := by decide +kernel
theorem dL_law_821 : decode cL_law 821 = .ok (.iconst 1, 1) := by decide +kernel
theorem dL_law_822 : decode cL_law 822 = .ok (.iadd, 1) := by decide +kernel
theorem dL_law_823 : decode cL_law 823 = .ok (.iaload, 1) := by decide +kernel
theorem dL_law_824 : decode cL_law 824 = .ok (.invokevirtual 91, 3) := by decide +kernel
theorem dL_law_827 : decode cL_law 827 = .ok (.if_icmp .eq 411, 3) := by decide +kernel
theorem dL_law_832 : decode cL_law 832 = .ok (.aload_n 1, 1) := by decide +kernel
theorem dL_law_833 : decode cL_law 833 = .ok (.aload_n 0, 1) := by decide +kernel
theorem dL_law_834 : decode cL_law 834 = .ok (.iload_n 3, 1) := by decide +kernel
theorem dL_law_835 : decode cL_law 835 = .ok (.iconst 1, 1) := by decide +kernel
theorem dL_law_836 : decode cL_law 836 = .ok (.iadd, 1) := by decide +kernel
theorem dL_law_837 : decode cL_law 837 = .ok (.iaload, 1) := by decide +kernel
theorem dL_law_838 : decode cL_law 838 = .ok (.aload_n 0, 1) := by decide +kernel
theorem dL_law_839 : decode cL_law 839 = .ok (.iload_n 3, 1) := by decide +kernel
theorem dL_law_840 : decode cL_law 840 = .ok (.iconst 2, 1) := by decide +kernel
theorem dL_law_841 : decode cL_law 841 = .ok (.iadd, 1) := by decide +kernel
theorem dL_law_842 : decode cL_law 842 = .ok (.iaload, 1) := by decide +kernel
theorem dL_law_843 : decode cL_law 843 = .ok (.invokevirtual 92, 3) := by decide +kernel
theorem dL_law_846 : decode cL_law 846 = .ok (.aload_n 2, 1) := by decide +kernel
theorem dL_law_847 : decode cL_law 847 = .ok (.aload_n 0, 1) := by decide +kernel
theorem dL_law_848 : decode cL_law 848 = .ok (.iload_n 3, 1) := by decide +kernel
theorem dL_law_849 : decode cL_law 849 = .ok (.iconst 1, 1) := by decide +kernel
theorem dL_law_850 : decode cL_law 850 = .ok (.iadd, 1) := by decide +kernel
theorem dL_law_851 : decode cL_law 851 = .ok (.iaload, 1) := by decide +kernel
theorem dL_law_852 : decode cL_law 852 = .ok (.aload_n 0, 1) := by decide +kernel
theorem dL_law_853 : decode cL_law 853 = .ok (.iload_n 3, 1) := by decide +kernel
theorem dL_law_854 : decode cL_law 854 = .ok (.iconst 2, 1) := by decide +kernel
theorem dL_law_855 : decode cL_law 855 = .ok (.iadd, 1) := by decide +kernel
theorem dL_law_856 : decode cL_law 856 = .ok (.iaload, 1) := by decide +kernel
theorem dL_law_857 : decode cL_law 857 = .ok (.invokevirtual 95, 3) := by decide +kernel
theorem dL_law_860 : decode cL_law 860 = .ok (.if_icmp .eq 378, 3) := by decide +kernel
theorem dL_law_865 : decode cL_law 865 = .ok (.aload_n 1, 1) := by decide +kernel
theorem dL_law_866 : decode cL_law 866 = .ok (.aload_n 0, 1) := by decide +kernel
theorem dL_law_867 : decode cL_law 867 = .ok (.iload_n 3, 1) := by decide +kernel
theorem dL_law_868 : decode cL_law 868 = .ok (.iconst 1, 1) := by decide +kernel
theorem dL_law_869 : decode cL_law 869 = .ok (.iadd, 1) := by decide +kernel
theorem dL_law_870 : decode cL_law 870 = .ok (.iaload, 1) := by decide +kernel
theorem dL_law_871 : decode cL_law 871 = .ok (.aload_n 0, 1) := by decide +kernel
theorem dL_law_872 : decode cL_law 872 = .ok (.iload_n 3, 1) := by decide +kernel
theorem dL_law_873 : decode cL_law 873 = .ok (.iconst 2, 1) := by decide +kernel
theorem dL_law_874 : decode cL_law 874 = .ok (.iadd, 1) := by decide +kernel
theorem dL_law_875 : decode cL_law 875 = .ok (.iaload, 1) := by decide +kernel
theorem dL_law_876 : decode cL_law 876 = .ok (.invokevirtual 96, 3) := by decide +kernel
theorem dL_law_879 : decode cL_law 879 = .ok (.aload_n 2, 1) := by decide +kernel
theorem dL_law_880 : decode cL_law 880 = .ok (.aload_n 0, 1) := by decide +kernel
theorem dL_law_881 : decode cL_law 881 = .ok (.iload_n 3, 1) := by decide +kernel
theorem dL_law_882 : decode cL_law 882 = .ok (.iconst 1, 1) := by decide +kernel
theorem dL_law_883 : decode cL_law 883 = .ok (.iadd, 1) := by decide +kernel
theorem dL_law_884 : decode cL_law 884 = .ok (.iaload, 1) := by decide +kernel
theorem dL_law_885 : decode cL_law 885 = .ok (.aload_n 0, 1) := by decide +kernel
theorem dL_law_886 : decode cL_law 886 = .ok (.iload_n 3, 1) := by decide +kernel
theorem dL_law_887 : decode cL_law 887 = .ok (.iconst 2, 1) := by decide +kernel
theorem dL_law_888 : decode cL_law 888 = .ok (.iadd, 1) := by decide +kernel
theorem dL_law_889 : decode cL_law 889 = .ok (.iaload, 1) := by decide +kernel
theorem dL_law_890 : decode cL_law 890 = .ok (.invokevirtual 99, 3) := by decide +kernel
theorem dL_law_893 : decode cL_law 893 = .ok (.if_icmp .eq 345, 3) := by decide +kernel
theorem dL_law_898 : decode cL_law 898 = .ok (.aload_n 1, 1) := by decide +kernel
theorem dL_law_899 : decode cL_law 899 = .ok (.aload_n 0, 1) := by decide +kernel
theorem dL_law_900 : decode cL_law 900 = .ok (.iload_n 3, 1) := by decide +kernel
theorem dL_law_901 : decode cL_law 901 = .ok (.iconst 1, 1) := by decide +kernel
theorem dL_law_902 : decode cL_law 902 = .ok (.iadd, 1) := by decide +kernel
theorem dL_law_903 : decode cL_law 903 = .ok (.iaload, 1) := by decide +kernel
theorem dL_law_904 : decode cL_law 904 = .ok (.aload_n 0, 1) := by decide +kernel
theorem dL_law_905 : decode cL_law 905 = .ok (.iload_n 3, 1) := by decide +kernel
end
section
theorem dL_law_906 : decode cL_law 906 = .ok (.iconst 2, 1) := by decide +kernel
theorem dL_law_907 : decode cL_law 907 = .ok (.iadd, 1) := by decide +kernel
theorem dL_law_908 : decode cL_law 908 = .ok (.iaload, 1) := by decide +kernel
theorem dL_law_909 : decode cL_law 909 = .ok (.invokevirtual 100, 3) := by decide +kernel
theorem dL_law_912 : decode cL_law 912 = .ok (.aload_n 2, 1) := by decide +kernel
theorem dL_law_913 : decode cL_law 913 = .ok (.aload_n 0, 1) := by decide +kernel
theorem dL_law_914 : decode cL_law 914 = .ok (.iload_n 3, 1) := by decide +kernel
theorem dL_law_915 : decode cL_law 915 = .ok (.iconst 1, 1) := by decide +kernel
theorem dL_law_916 : decode cL_law 916 = .ok (.iadd, 1) := by decide +kernel
theorem dL_law_917 : decode cL_law 917 = .ok (.iaload, 1) := by decide +kernel
theorem dL_law_918 : decode cL_law 918 = .ok (.aload_n 0, 1) := by decide +kernel
theorem dL_law_919 : decode cL_law 919 = .ok (.iload_n 3, 1) := by decide +kernel
theorem dL_law_920 : decode cL_law 920 = .ok (.iconst 2, 1) := by decide +kernel
theorem dL_law_921 : decode cL_law 921 = .ok (.iadd, 1) := by decide +kernel
theorem dL_law_922 : decode cL_law 922 = .ok (.iaload, 1) := by decide +kernel
theorem dL_law_923 : decode cL_law 923 = .ok (.invokevirtual 103, 3) := by decide +kernel
theorem dL_law_926 : decode cL_law 926 = .ok (.if_icmp .eq 312, 3) := by decide +kernel
theorem dL_law_931 : decode cL_law 931 = .ok (.aload_n 1, 1) := by decide +kernel
theorem dL_law_932 : decode cL_law 932 = .ok (.aload_n 0, 1) := by decide +kernel
theorem dL_law_933 : decode cL_law 933 = .ok (.iload_n 3, 1) := by decide +kernel
theorem dL_law_934 : decode cL_law 934 = .ok (.iconst 1, 1) := by decide +kernel
theorem dL_law_935 : decode cL_law 935 = .ok (.iadd, 1) := by decide +kernel
theorem dL_law_936 : decode cL_law 936 = .ok (.iaload, 1) := by decide +kernel
theorem dL_law_937 : decode cL_law 937 = .ok (.invokevirtual 104, 3) := by decide +kernel
theorem dL_law_940 : decode cL_law 940 = .ok (.aload_n 2, 1) := by decide +kernel
theorem dL_law_941 : decode cL_law 941 = .ok (.aload_n 0, 1) := by decide +kernel
theorem dL_law_942 : decode cL_law 942 = .ok (.iload_n 3, 1) := by decide +kernel
theorem dL_law_943 : decode cL_law 943 = .ok (.iconst 1, 1) := by decide +kernel
theorem dL_law_944 : decode cL_law 944 = .ok (.iadd, 1) := by decide +kernel
theorem dL_law_945 : decode cL_law 945 = .ok (.iaload, 1) := by decide +kernel
theorem dL_law_946 : decode cL_law 946 = .ok (.invokevirtual 107, 3) := by decide +kernel
theorem dL_law_949 : decode cL_law 949 = .ok (.if_icmp .eq 289, 3) := by decide +kernel
theorem dL_law_954 : decode cL_law 954 = .ok (.aload_n 1, 1) := by decide +kernel
theorem dL_law_955 : decode cL_law 955 = .ok (.aload_n 0, 1) := by decide +kernel
theorem dL_law_956 : decode cL_law 956 = .ok (.iload_n 3, 1) := by decide +kernel
theorem dL_law_957 : decode cL_law 957 = .ok (.iconst 1, 1) := by decide +kernel
theorem dL_law_958 : decode cL_law 958 = .ok (.iadd, 1) := by decide +kernel
theorem dL_law_959 : decode cL_law 959 = .ok (.iaload, 1) := by decide +kernel
theorem dL_law_960 : decode cL_law 960 = .ok (.aload_n 0, 1) := by decide +kernel
theorem dL_law_961 : decode cL_law 961 = .ok (.iload_n 3, 1) := by decide +kernel
theorem dL_law_962 : decode cL_law 962 = .ok (.iconst 2, 1) := by decide +kernel
theorem dL_law_963 : decode cL_law 963 = .ok (.iadd, 1) := by decide +kernel
theorem dL_law_964 : decode cL_law 964 = .ok (.iaload, 1) := by decide +kernel
theorem dL_law_965 : decode cL_law 965 = .ok (.aload_n 0, 1) := by decide +kernel
theorem dL_law_966 : decode cL_law 966 = .ok (.iload_n 3, 1) := by decide +kernel
theorem dL_law_967 : decode cL_law 967 = .ok (.iconst 3, 1) := by decide +kernel
theorem dL_law_968 : decode cL_law 968 = .ok (.iadd, 1) := by decide +kernel
theorem dL_law_969 : decode cL_law 969 = .ok (.iaload, 1) := by decide +kernel
theorem dL_law_970 : decode cL_law 970 = .ok (.invokevirtual 108, 3) := by decide +kernel
theorem dL_law_973 : decode cL_law 973 = .ok (.aload_n 2, 1) := by decide +kernel
theorem dL_law_974 : decode cL_law 974 = .ok (.aload_n 0, 1) := by decide +kernel
theorem dL_law_975 : decode cL_law 975 = .ok (.iload_n 3, 1) := by decide +kernel
theorem dL_law_976 : decode cL_law 976 = .ok (.iconst 1, 1) := by decide +kernel
theorem dL_law_977 : decode cL_law 977 = .ok (.iadd, 1) := by decide +kernel
theorem dL_law_978 : decode cL_law 978 = .ok (.iaload, 1) := by decide +kernel
theorem dL_law_979 : decode cL_law 979 = .ok (.aload_n 0, 1) := by decide +kernel
theorem dL_law_980 : decode cL_law 980 = .ok (.iload_n 3, 1) := by decide +kernel
theorem dL_law_981 : decode cL_law 981 = .ok (.iconst 2, 1) := by decide +kernel
theorem dL_law_982 : decode cL_law 982 = .ok (.iadd, 1) := by decide +kernel
theorem dL_law_983 : decode cL_law 983 = .ok (.iaload, 1) := by decide +kernel
theorem dL_law_984 : decode cL_law 984 = .ok (.aload_n 0, 1) := by decide +kernel
theorem dL_law_985 : decode cL_law 985 = .ok (.iload_n 3, 1) := by decide +kernel
theorem dL_law_986 : decode cL_law 986 = .ok (.iconst 3, 1) := by decide +kernel
theorem dL_law_987 : decode cL_law 987 = .ok (.iadd, 1) := by decide +kernel
theorem dL_law_988 : decode cL_law 988 = .ok (.iaload, 1) := by decide +kernel
theorem dL_law_989 : decode cL_law 989 = .ok (.invokevirtual 111, 3) := by decide +kernel
theorem dL_law_992 : decode cL_law 992 = .ok (.if_icmp .eq 246, 3) := by decide +kernel
theorem dL_law_997 : decode cL_law 997 = .ok (.aload_n 1, 1) := by decide +kernel
theorem dL_law_998 : decode cL_law 998 = .ok (.aload_n 0, 1) := by decide +kernel
theorem dL_law_999 : decode cL_law 999 = .ok (.iload_n 3, 1) := by decide +kernel
theorem dL_law_1000 : decode cL_law 1000 = .ok (.iconst 1, 1) := by decide +kernel
theorem dL_law_1001 : decode cL_law 1001 = .ok (.iadd, 1) := by decide +kernel
theorem dL_law_1002 : decode cL_law 1002 = .ok (.iaload, 1) := by decide +kernel
theorem dL_law_1003 : decode cL_law 1003 = .ok (.aload_n 0, 1) := by decide +kernel
theorem dL_law_1004 : decode cL_law 1004 = .ok (.iload_n 3, 1) := by decide +kernel
theorem dL_law_1005 : decode cL_law 1005 = .ok (.iconst 2, 1) := by decide +kernel
theorem dL_law_1006 : decode cL_law 1006 = .ok (.iadd, 1) := by decide +kernel
theorem dL_law_1007 : decode cL_law 1007 = .ok (.iaload, 1) := by decide +kernel
theorem dL_law_1008 : decode cL_law 1008 = .ok (.invokevirtual 112, 3) := by decide +kernel
theorem dL_law_1011 : decode cL_law 1011 = .ok (.aload_n 2, 1) := by decide +kernel
theorem dL_law_1012 : decode cL_law 1012 = .ok (.aload_n 0, 1) := by decide +kernel
theorem dL_law_1013 : decode cL_law 1013 = .ok (.iload_n 3, 1) := by decide +kernel
theorem dL_law_1014 : decode cL_law 1014 = .ok (.iconst 1, 1) := by decide +kernel
theorem dL_law_1015 : decode cL_law 1015 = .ok (.iadd, 1) := by decide +kernel
theorem dL_law_1016 : decode cL_law 1016 = .ok (.iaload, 1) := by decide +kernel
theorem dL_law_1017 : decode cL_law 1017 = .ok (.aload_n 0, 1) := by decide +kernel
theorem dL_law_1018 : decode cL_law 1018 = .ok (.iload_n 3, 1) := by decide +kernel
theorem dL_law_1019 : decode cL_law 1019 = .ok (.iconst 2, 1) := by decide +kernel
theorem dL_law_1020 : decode cL_law 1020 = .ok (.iadd, 1) := by decide +kernel
theorem dL_law_1021 : decode cL_law 1021 = .ok (.iaload, 1) := by decide +kernel
theorem dL_law_1022 : decode cL_law 1022 = .ok (.invokevirtual 115, 3) := by decide +kernel
theorem dL_law_1025 : decode cL_law 1025 = .ok (.if_icmp .eq 213, 3) := by decide +kernel
theorem dL_law_1030 : decode cL_law 1030 = .ok (.aload_n 1, 1) := by decide +kernel
theorem dL_law_1031 : decode cL_law 1031 = .ok (.aload_n 0, 1) := by decide +kernel
theorem dL_law_1032 : decode cL_law 1032 = .ok (.iload_n 3, 1) := by decide +kernel
theorem dL_law_1033 : decode cL_law 1033 = .ok (.iconst 1, 1) := by decide +kernel
theorem dL_law_1034 : decode cL_law 1034 = .ok (.iadd, 1) := by decide +kernel
theorem dL_law_1035 : decode cL_law 1035 = .ok (.iaload, 1) := by decide +kernel
theorem dL_law_1036 : decode cL_law 1036 = .ok (.aload_n 0, 1) := by decide +kernel
theorem dL_law_1037 : decode cL_law 1037 = .ok (.iload_n 3, 1) := by decide +kernel
theorem dL_law_1038 : decode cL_law 1038 = .ok (.iconst 2, 1) := by decide +kernel
theorem dL_law_1039 : decode cL_law 1039 = .ok (.iadd, 1) := by decide +kernel
theorem dL_law_1040 : decode cL_law 1040 = .ok (.iaload, 1) := by decide +kernel
theorem dL_law_1041 : decode cL_law 1041 = .ok (.aload_n 0, 1) := by decide +kernel
theorem dL_law_1042 : decode cL_law 1042 = .ok (.iload_n 3, 1) := by decide +kernel
theorem dL_law_1043 : decode cL_law 1043 = .ok (.iconst 3, 1) := by decide +kernel
theorem dL_law_1044 : decode cL_law 1044 = .ok (.iadd, 1) := by decide +kernel
theorem dL_law_1045 : decode cL_law 1045 = .ok (.iaload, 1) := by decide +kernel
theorem dL_law_1046 : decode cL_law 1046 = .ok (.invokevirtual 116, 3) := by decide +kernel
theorem dL_law_1049 : decode cL_law 1049 = .ok (.aload_n 2, 1) := by decide +kernel
theorem dL_law_1050 : decode cL_law 1050 = .ok (.aload_n 0, 1) := by decide +kernel
theorem dL_law_1051 : decode cL_law 1051 = .ok (.iload_n 3, 1) := by decide +kernel
theorem dL_law_1052 : decode cL_law 1052 = .ok (.iconst 1, 1) := by decide +kernel
theorem dL_law_1053 : decode cL_law 1053 = .ok (.iadd, 1) := by decide +kernel
theorem dL_law_1054 : decode cL_law 1054 = .ok (.iaload, 1) := by decide +kernel
theorem dL_law_1055 : decode cL_law 1055 = .ok (.aload_n 0, 1) := by decide +kernel
theorem dL_law_1056 : decode cL_law 1056 = .ok (.iload_n 3, 1) := by decide +kernel
theorem dL_law_1057 : decode cL_law 1057 = .ok (.iconst 2, 1) := by decide +kernel
theorem dL_law_1058 : decode cL_law 1058 = .ok (.iadd, 1) := by decide +kernel
theorem dL_law_1059 : decode cL_law 1059 = .ok (.iaload, 1) := by decide +kernel
end
section
theorem dL_law_1060 : decode cL_law 1060 = .ok (.aload_n 0, 1) := by decide +kernel
theorem dL_law_1061 : decode cL_law 1061 = .ok (.iload_n 3, 1) := by decide +kernel
theorem dL_law_1062 : decode cL_law 1062 = .ok (.iconst 3, 1) := by decide +kernel
theorem dL_law_1063 : decode cL_law 1063 = .ok (.iadd, 1) := by decide +kernel
theorem dL_law_1064 : decode cL_law 1064 = .ok (.iaload, 1) := by decide +kernel
theorem dL_law_1065 : decode cL_law 1065 = .ok (.invokevirtual 119, 3) := by decide +kernel
theorem dL_law_1068 : decode cL_law 1068 = .ok (.if_icmp .eq 170, 3) := by decide +kernel
theorem dL_law_1073 : decode cL_law 1073 = .ok (.aload_n 1, 1) := by decide +kernel
theorem dL_law_1074 : decode cL_law 1074 = .ok (.aload_n 0, 1) := by decide +kernel
theorem dL_law_1075 : decode cL_law 1075 = .ok (.iload_n 3, 1) := by decide +kernel
theorem dL_law_1076 : decode cL_law 1076 = .ok (.iconst 1, 1) := by decide +kernel
theorem dL_law_1077 : decode cL_law 1077 = .ok (.iadd, 1) := by decide +kernel
theorem dL_law_1078 : decode cL_law 1078 = .ok (.iaload, 1) := by decide +kernel
theorem dL_law_1079 : decode cL_law 1079 = .ok (.aload_n 0, 1) := by decide +kernel
theorem dL_law_1080 : decode cL_law 1080 = .ok (.iload_n 3, 1) := by decide +kernel
theorem dL_law_1081 : decode cL_law 1081 = .ok (.iconst 2, 1) := by decide +kernel
theorem dL_law_1082 : decode cL_law 1082 = .ok (.iadd, 1) := by decide +kernel
theorem dL_law_1083 : decode cL_law 1083 = .ok (.iaload, 1) := by decide +kernel
theorem dL_law_1084 : decode cL_law 1084 = .ok (.aload_n 0, 1) := by decide +kernel
theorem dL_law_1085 : decode cL_law 1085 = .ok (.iload_n 3, 1) := by decide +kernel
theorem dL_law_1086 : decode cL_law 1086 = .ok (.iconst 3, 1) := by decide +kernel
theorem dL_law_1087 : decode cL_law 1087 = .ok (.iadd, 1) := by decide +kernel
theorem dL_law_1088 : decode cL_law 1088 = .ok (.iaload, 1) := by decide +kernel
theorem dL_law_1089 : decode cL_law 1089 = .ok (.aload_n 0, 1) := by decide +kernel
theorem dL_law_1090 : decode cL_law 1090 = .ok (.iload_n 3, 1) := by decide +kernel
theorem dL_law_1091 : decode cL_law 1091 = .ok (.iconst 4, 1) := by decide +kernel
theorem dL_law_1092 : decode cL_law 1092 = .ok (.iadd, 1) := by decide +kernel
theorem dL_law_1093 : decode cL_law 1093 = .ok (.iaload, 1) := by decide +kernel
theorem dL_law_1094 : decode cL_law 1094 = .ok (.aload_n 0, 1) := by decide +kernel
theorem dL_law_1095 : decode cL_law 1095 = .ok (.iload_n 3, 1) := by decide +kernel
theorem dL_law_1096 : decode cL_law 1096 = .ok (.iconst 5, 1) := by decide +kernel
theorem dL_law_1097 : decode cL_law 1097 = .ok (.iadd, 1) := by decide +kernel
theorem dL_law_1098 : decode cL_law 1098 = .ok (.iaload, 1) := by decide +kernel
theorem dL_law_1099 : decode cL_law 1099 = .ok (.invokevirtual 120, 3) := by decide +kernel
theorem dL_law_1102 : decode cL_law 1102 = .ok (.aload_n 2, 1) := by decide +kernel
theorem dL_law_1103 : decode cL_law 1103 = .ok (.aload_n 0, 1) := by decide +kernel
theorem dL_law_1104 : decode cL_law 1104 = .ok (.iload_n 3, 1) := by decide +kernel
theorem dL_law_1105 : decode cL_law 1105 = .ok (.iconst 1, 1) := by decide +kernel
theorem dL_law_1106 : decode cL_law 1106 = .ok (.iadd, 1) := by decide +kernel
theorem dL_law_1107 : decode cL_law 1107 = .ok (.iaload, 1) := by decide +kernel
theorem dL_law_1108 : decode cL_law 1108 = .ok (.aload_n 0, 1) := by decide +kernel
theorem dL_law_1109 : decode cL_law 1109 = .ok (.iload_n 3, 1) := by decide +kernel
theorem dL_law_1110 : decode cL_law 1110 = .ok (.iconst 2, 1) := by decide +kernel
theorem dL_law_1111 : decode cL_law 1111 = .ok (.iadd, 1) := by decide +kernel
theorem dL_law_1112 : decode cL_law 1112 = .ok (.iaload, 1) := by decide +kernel
theorem dL_law_1113 : decode cL_law 1113 = .ok (.aload_n 0, 1) := by decide +kernel
theorem dL_law_1114 : decode cL_law 1114 = .ok (.iload_n 3, 1) := by decide +kernel
theorem dL_law_1115 : decode cL_law 1115 = .ok (.iconst 3, 1) := by decide +kernel
theorem dL_law_1116 : decode cL_law 1116 = .ok (.iadd, 1) := by decide +kernel
theorem dL_law_1117 : decode cL_law 1117 = .ok (.iaload, 1) := by decide +kernel
theorem dL_law_1118 : decode cL_law 1118 = .ok (.aload_n 0, 1) := by decide +kernel
theorem dL_law_1119 : decode cL_law 1119 = .ok (.iload_n 3, 1) := by decide +kernel
theorem dL_law_1120 : decode cL_law 1120 = .ok (.iconst 4, 1) := by decide +kernel
theorem dL_law_1121 : decode cL_law 1121 = .ok (.iadd, 1) := by decide +kernel
theorem dL_law_1122 : decode cL_law 1122 = .ok (.iaload, 1) := by decide +kernel
theorem dL_law_1123 : decode cL_law 1123 = .ok (.aload_n 0, 1) := by decide +kernel
theorem dL_law_1124 : decode cL_law 1124 = .ok (.iload_n 3, 1) := by decide +kernel
theorem dL_law_1125 : decode cL_law 1125 = .ok (.iconst 5, 1) := by decide +kernel
theorem dL_law_1126 : decode cL_law 1126 = .ok (.iadd, 1) := by decide +kernel
theorem dL_law_1127 : decode cL_law 1127 = .ok (.iaload, 1) := by decide +kernel
theorem dL_law_1128 : decode cL_law 1128 = .ok (.invokevirtual 123, 3) := by decide +kernel
theorem dL_law_1131 : decode cL_law 1131 = .ok (.if_icmp .eq 107, 3) := by decide +kernel
theorem dL_law_1136 : decode cL_law 1136 = .ok (.aload_n 1, 1) := by decide +kernel
theorem dL_law_1137 : decode cL_law 1137 = .ok (.aload_n 0, 1) := by decide +kernel
theorem dL_law_1138 : decode cL_law 1138 = .ok (.iload_n 3, 1) := by decide +kernel
theorem dL_law_1139 : decode cL_law 1139 = .ok (.iconst 1, 1) := by decide +kernel
theorem dL_law_1140 : decode cL_law 1140 = .ok (.iadd, 1) := by decide +kernel
theorem dL_law_1141 : decode cL_law 1141 = .ok (.iaload, 1) := by decide +kernel
theorem dL_law_1142 : decode cL_law 1142 = .ok (.aload_n 0, 1) := by decide +kernel
theorem dL_law_1143 : decode cL_law 1143 = .ok (.iload_n 3, 1) := by decide +kernel
theorem dL_law_1144 : decode cL_law 1144 = .ok (.iconst 2, 1) := by decide +kernel
theorem dL_law_1145 : decode cL_law 1145 = .ok (.iadd, 1) := by decide +kernel
theorem dL_law_1146 : decode cL_law 1146 = .ok (.iaload, 1) := by decide +kernel
theorem dL_law_1147 : decode cL_law 1147 = .ok (.invokevirtual 124, 3) := by decide +kernel
theorem dL_law_1150 : decode cL_law 1150 = .ok (.aload_n 2, 1) := by decide +kernel
theorem dL_law_1151 : decode cL_law 1151 = .ok (.aload_n 0, 1) := by decide +kernel
theorem dL_law_1152 : decode cL_law 1152 = .ok (.iload_n 3, 1) := by decide +kernel
theorem dL_law_1153 : decode cL_law 1153 = .ok (.iconst 1, 1) := by decide +kernel
theorem dL_law_1154 : decode cL_law 1154 = .ok (.iadd, 1) := by decide +kernel
theorem dL_law_1155 : decode cL_law 1155 = .ok (.iaload, 1) := by decide +kernel
theorem dL_law_1156 : decode cL_law 1156 = .ok (.aload_n 0, 1) := by decide +kernel
theorem dL_law_1157 : decode cL_law 1157 = .ok (.iload_n 3, 1) := by decide +kernel
theorem dL_law_1158 : decode cL_law 1158 = .ok (.iconst 2, 1) := by decide +kernel
theorem dL_law_1159 : decode cL_law 1159 = .ok (.iadd, 1) := by decide +kernel
theorem dL_law_1160 : decode cL_law 1160 = .ok (.iaload, 1) := by decide +kernel
theorem dL_law_1161 : decode cL_law 1161 = .ok (.invokevirtual 127, 3) := by decide +kernel
theorem dL_law_1164 : decode cL_law 1164 = .ok (.if_icmp .eq 74, 3) := by decide +kernel
theorem dL_law_1169 : decode cL_law 1169 = .ok (.aload_n 1, 1) := by decide +kernel
theorem dL_law_1170 : decode cL_law 1170 = .ok (.aload_n 0, 1) := by decide +kernel
theorem dL_law_1171 : decode cL_law 1171 = .ok (.iload_n 3, 1) := by decide +kernel
theorem dL_law_1172 : decode cL_law 1172 = .ok (.iconst 1, 1) := by decide +kernel
theorem dL_law_1173 : decode cL_law 1173 = .ok (.iadd, 1) := by decide +kernel
theorem dL_law_1174 : decode cL_law 1174 = .ok (.iaload, 1) := by decide +kernel
theorem dL_law_1175 : decode cL_law 1175 = .ok (.invokevirtual 128, 3) := by decide +kernel
theorem dL_law_1178 : decode cL_law 1178 = .ok (.aload_n 2, 1) := by decide +kernel
theorem dL_law_1179 : decode cL_law 1179 = .ok (.aload_n 0, 1) := by decide +kernel
theorem dL_law_1180 : decode cL_law 1180 = .ok (.iload_n 3, 1) := by decide +kernel
theorem dL_law_1181 : decode cL_law 1181 = .ok (.iconst 1, 1) := by decide +kernel
theorem dL_law_1182 : decode cL_law 1182 = .ok (.iadd, 1) := by decide +kernel
theorem dL_law_1183 : decode cL_law 1183 = .ok (.iaload, 1) := by decide +kernel
theorem dL_law_1184 : decode cL_law 1184 = .ok (.invokevirtual 131, 3) := by decide +kernel
theorem dL_law_1187 : decode cL_law 1187 = .ok (.if_icmp .eq 51, 3) := by decide +kernel
theorem dL_law_1192 : decode cL_law 1192 = .ok (.aload_n 1, 1) := by decide +kernel
theorem dL_law_1193 : decode cL_law 1193 = .ok (.aload_n 0, 1) := by decide +kernel
theorem dL_law_1194 : decode cL_law 1194 = .ok (.iload_n 3, 1) := by decide +kernel
theorem dL_law_1195 : decode cL_law 1195 = .ok (.iconst 1, 1) := by decide +kernel
theorem dL_law_1196 : decode cL_law 1196 = .ok (.iadd, 1) := by decide +kernel
theorem dL_law_1197 : decode cL_law 1197 = .ok (.iaload, 1) := by decide +kernel
theorem dL_law_1198 : decode cL_law 1198 = .ok (.invokevirtual 132, 3) := by decide +kernel
theorem dL_law_1201 : decode cL_law 1201 = .ok (.aload_n 2, 1) := by decide +kernel
theorem dL_law_1202 : decode cL_law 1202 = .ok (.aload_n 0, 1) := by decide +kernel
theorem dL_law_1203 : decode cL_law 1203 = .ok (.iload_n 3, 1) := by decide +kernel
theorem dL_law_1204 : decode cL_law 1204 = .ok (.iconst 1, 1) := by decide +kernel
theorem dL_law_1205 : decode cL_law 1205 = .ok (.iadd, 1) := by decide +kernel
theorem dL_law_1206 : decode cL_law 1206 = .ok (.iaload, 1) := by decide +kernel
theorem dL_law_1207 : decode cL_law 1207 = .ok (.invokevirtual 135, 3) := by decide +kernel
theorem dL_law_1210 : decode cL_law 1210 = .ok (.if_icmp .eq 28, 3) := by decide +kernel
theorem dL_law_1215 : decode cL_law 1215 = .ok (.aload_n 1, 1) := by decide +kernel
theorem dL_law_1216 : decode cL_law 1216 = .ok (.aload_n 0, 1) := by decide +kernel
theorem dL_law_1217 : decode cL_law 1217 = .ok (.iload_n 3, 1) := by decide +kernel
end
section
theorem dL_law_1218 : decode cL_law 1218 = .ok (.iconst 1, 1) := by decide +kernel
theorem dL_law_1219 : decode cL_law 1219 = .ok (.iadd, 1) := by decide +kernel
theorem dL_law_1220 : decode cL_law 1220 = .ok (.iaload, 1) := by decide +kernel
theorem dL_law_1221 : decode cL_law 1221 = .ok (.invokevirtual 136, 3) := by decide +kernel
theorem dL_law_1224 : decode cL_law 1224 = .ok (.aload_n 2, 1) := by decide +kernel
theorem dL_law_1225 : decode cL_law 1225 = .ok (.aload_n 0, 1) := by decide +kernel
theorem dL_law_1226 : decode cL_law 1226 = .ok (.iload_n 3, 1) := by decide +kernel
theorem dL_law_1227 : decode cL_law 1227 = .ok (.iconst 1, 1) := by decide +kernel
theorem dL_law_1228 : decode cL_law 1228 = .ok (.iadd, 1) := by decide +kernel
theorem dL_law_1229 : decode cL_law 1229 = .ok (.iaload, 1) := by decide +kernel
theorem dL_law_1230 : decode cL_law 1230 = .ok (.invokevirtual 139, 3) := by decide +kernel
theorem dL_law_1233 : decode cL_law 1233 = .ok (.if_icmp .eq 5, 3) := by decide +kernel
theorem dL_law_1238 : decode cL_law 1238 = .ok (.iinc 3 6, 3) := by decide +kernel
theorem dL_law_1241 : decode cL_law 1241 = .ok (.goto (-1223), 3) := by decide +kernel
theorem dL_law_1244 : decode cL_law 1244 = .ok (.iconst 1, 1) := by decide +kernel
theorem dL_law_1245 : decode cL_law 1245 = .ok (.ireturn, 1) := by decide +kernel
end
section
def wU_1 : List Cond := [Cond.classLink RL 7 RX11, Cond.instantiable RX11 15, Cond.initialized RX11, Cond.classLink RL 10 RX12, Cond.instantiable RX12 75, Cond.initialized RX12, Cond.methodLink RL 9 yX11_init, Cond.instanceMethod yX11_init, Cond.code yX11_init cX11_init 1 none, Cond.methodLink RX11 1 objectInit, Cond.instanceMethod objectInit, Cond.code objectInit ⟨#[0xb1]⟩ 1 none, Cond.classLink RX11 7 RX9, Cond.instantiable RX9 6, Cond.initialized RX9, Cond.fieldLink RX11 10 "HalfDrop" "text" "LHalfDrop$Text;", Cond.classLink RX11 16 RX4, Cond.instantiable RX4 3, Cond.initialized RX4, Cond.fieldLink RX11 21 "HalfDrop" "reader" "LHalfDrop$Reader;", Cond.classLink RX11 25 RX6, Cond.fieldLink RX11 27 "HalfDrop" "rooms" "[LHalfDrop$Room;", Cond.classLink RX11 31 RX3, Cond.fieldLink RX11 33 "HalfDrop" "papers" "[LHalfDrop$Paper;"]
set_option maxRecDepth 20000 in
theorem gU_1 : GoodIn lw_tbl wU_1 := goodIn_r wU_1 [108, 109, 89, 1275, 1276, 100, 110, 111, 112, 113, 114, 115, 116, 117, 90, 519, 148, 149, 91, 520, 164, 521, 166, 522] (by decide +kernel) (by decide +kernel)
def wU_2 : List Cond := [Cond.classLink RX11 37 RX8, Cond.instantiable RX8 8, Cond.initialized RX8, Cond.fieldLink RX11 40 "HalfDrop" "now" "LHalfDrop$State;", Cond.fieldLink RX11 44 "HalfDrop" "images" "[LHalfDrop$State;", Cond.classLink RX11 48 RX2, Cond.instantiable RX2 16, Cond.initialized RX2, Cond.fieldLink RX11 51 "HalfDrop" "layout" "LHalfDrop$Layout;", Cond.classLink RX11 55 RX5, Cond.instantiable RX5 8, Cond.initialized RX5, Cond.fieldLink RX11 58 "HalfDrop" "cutRolls" "LHalfDrop$Rolls;", Cond.classLink RX11 62 RX1, Cond.instantiable RX1 9, Cond.initialized RX1, Cond.fieldLink RX11 65 "HalfDrop" "judge" "LHalfDrop$Judge;", Cond.classLink RX11 69 RX7, Cond.instantiable RX7 12, Cond.initialized RX7, Cond.fieldLink RX11 72 "HalfDrop" "sharing" "LHalfDrop$Sharing;", Cond.classLink RX11 76 RX0, Cond.instantiable RX0 7, Cond.initialized RX0]
set_option maxRecDepth 20000 in
theorem gU_2 : GoodIn lw_tbl wU_2 := goodIn_r wU_2 [168, 169, 92, 523, 524, 205, 206, 93, 525, 280, 281, 94, 526, 315, 316, 95, 527, 352, 353, 96, 528, 400, 401, 97] (by decide +kernel) (by decide +kernel)
def wU_3 : List Cond := [Cond.fieldLink RX11 79 "HalfDrop" "hangingDay" "LHalfDrop$Day;", Cond.instantiable RX6 12, Cond.initialized RX6, Cond.fieldLink RX11 84 "HalfDrop" "spareRoom" "LHalfDrop$Room;", Cond.fieldLink RX11 88 "HalfDrop" "roomCount" "I", Cond.fieldLink RX11 92 "HalfDrop" "paperCount" "I", Cond.fieldLink RX11 95 "HalfDrop" "trimNow" "I", Cond.methodLink RX11 9 yX9_init, Cond.instanceMethod yX9_init, Cond.code yX9_init cX9_init 1 none, Cond.methodLink RX9 1 objectInit, Cond.arrayClass .int, Cond.fieldLink RX9 9 "HalfDrop$Text" "bytes" "[I", Cond.fieldLink RX9 13 "HalfDrop$Text" "kinds" "[I", Cond.fieldLink RX9 16 "HalfDrop$Text" "places" "[I", Cond.fieldLink RX9 19 "HalfDrop$Text" "values" "[I", Cond.methodLink RX11 18 yX4_init, Cond.instanceMethod yX4_init, Cond.code yX4_init cX4_init 2 none, Cond.methodLink RX4 3 objectInit, Cond.fieldLink RX4 9 "HalfDrop$Reader" "text" "LHalfDrop$Text;", Cond.methodLink RX11 39 yX8_init, Cond.instanceMethod yX8_init, Cond.code yX8_init cX8_init 2 none]
set_option maxRecDepth 20000 in
theorem gU_3 : GoodIn lw_tbl wU_3 := goodIn_r wU_3 [529, 429, 98, 530, 531, 532, 533, 118, 119, 120, 121, 147, 122, 128, 130, 132, 150, 151, 152, 153, 154, 170, 171, 172] (by decide +kernel) (by decide +kernel)
def wU_4 : List Cond := [Cond.methodLink RX8 3 objectInit, Cond.fieldLink RX8 9 "HalfDrop$State" "papers" "[I", Cond.fieldLink RX8 15 "HalfDrop$State" "starts" "[I", Cond.fieldLink RX8 18 "HalfDrop$State" "bases" "[I", Cond.fieldLink RX8 21 "HalfDrop$State" "hungs" "[I", Cond.fieldLink RX8 24 "HalfDrop$State" "endPapers" "[I", Cond.fieldLink RX8 27 "HalfDrop$State" "endLengths" "[I", Cond.fieldLink RX8 30 "HalfDrop$State" "endPhases" "[I", Cond.methodLink RX11 50 yX2_init, Cond.instanceMethod yX2_init, Cond.code yX2_init cX2_init 1 none, Cond.methodLink RX2 5 objectInit, Cond.fieldLink RX2 11 "HalfDrop$Layout" "talls" "[I", Cond.fieldLink RX2 15 "HalfDrop$Layout" "firsts" "[I", Cond.fieldLink RX2 18 "HalfDrop$Layout" "stripsOf" "[I", Cond.fieldLink RX2 21 "HalfDrop$Layout" "froms" "[I", Cond.fieldLink RX2 24 "HalfDrop$Layout" "tos" "[I", Cond.fieldLink RX2 27 "HalfDrop$Layout" "longs" "[I", Cond.fieldLink RX2 30 "HalfDrop$Layout" "phases" "[I", Cond.fieldLink RX2 33 "HalfDrop$Layout" "rollsOf" "[I", Cond.fieldLink RX2 36 "HalfDrop$Layout" "placesOf" "[I", Cond.methodLink RX11 57 yX5_init, Cond.instanceMethod yX5_init, Cond.code yX5_init cX5_init 1 none]
set_option maxRecDepth 20000 in
theorem gU_4 : GoodIn lw_tbl wU_4 := goodIn_r wU_4 [173, 174, 176, 178, 180, 184, 185, 186, 207, 208, 209, 210, 223, 225, 231, 233, 235, 237, 240, 243, 245, 282, 283, 284] (by decide +kernel) (by decide +kernel)
def wU_5 : List Cond := [Cond.methodLink RX5 5 objectInit, Cond.fieldLink RX5 13 "HalfDrop$Rolls" "used" "[I", Cond.fieldLink RX5 17 "HalfDrop$Rolls" "leastOf" "[I", Cond.fieldLink RX5 20 "HalfDrop$Rolls" "longs" "[I", Cond.fieldLink RX5 23 "HalfDrop$Rolls" "phases" "[I", Cond.methodLink RX11 64 yX1_init, Cond.instanceMethod yX1_init, Cond.code yX1_init cX1_init 1 none, Cond.methodLink RX1 5 objectInit, Cond.fieldLink RX1 11 "HalfDrop$Judge" "wholeWith" "[I", Cond.fieldLink RX1 17 "HalfDrop$Judge" "baseFor" "[I", Cond.methodLink RX11 71 yX7_init, Cond.instanceMethod yX7_init, Cond.code yX7_init cX7_init 1 none, Cond.methodLink RX7 3 objectInit, Cond.fieldLink RX7 11 "HalfDrop$Sharing" "papers" "[I", Cond.fieldLink RX7 15 "HalfDrop$Sharing" "sizes" "[I", Cond.fieldLink RX7 20 "HalfDrop$Sharing" "needs" "[I", Cond.arrayClass .boolean, Cond.fieldLink RX7 23 "HalfDrop$Sharing" "hidden" "[Z", Cond.fieldLink RX7 27 "HalfDrop$Sharing" "given" "[I", Cond.fieldLink RX7 30 "HalfDrop$Sharing" "chosen" "[I", Cond.fieldLink RX7 33 "HalfDrop$Sharing" "picked" "[I", Cond.methodLink RX11 78 yX0_init]
set_option maxRecDepth 20000 in
theorem gU_5 : GoodIn lw_tbl wU_5 := goodIn_r wU_5 [285, 289, 295, 296, 297, 317, 318, 319, 320, 325, 326, 354, 355, 356, 357, 360, 361, 365, 399, 367, 368, 369, 370, 402] (by decide +kernel) (by decide +kernel)
def wU_6 : List Cond := [Cond.instanceMethod yX0_init, Cond.code yX0_init cX0_init 1 none, Cond.methodLink RX0 1 objectInit, Cond.fieldLink RX0 9 "HalfDrop$Day" "hangerFree" "[I", Cond.methodLink RX11 83 yX6_init, Cond.instanceMethod yX6_init, Cond.code yX6_init cX6_init 1 none, Cond.methodLink RX6 3 objectInit, Cond.classLink RX6 9 RX10, Cond.instantiable RX10 8, Cond.initialized RX10, Cond.fieldLink RX6 12 "HalfDrop$Room" "walls" "LHalfDrop$Walls;", Cond.fieldLink RX6 18 "HalfDrop$Room" "doors" "[Z", Cond.fieldLink RX6 22 "HalfDrop$Room" "openingWalls" "[I", Cond.fieldLink RX6 26 "HalfDrop$Room" "froms" "[I", Cond.fieldLink RX6 29 "HalfDrop$Room" "tos" "[I", Cond.fieldLink RX6 32 "HalfDrop$Room" "lowers" "[I", Cond.fieldLink RX6 35 "HalfDrop$Room" "uppers" "[I", Cond.fieldLink RX6 38 "HalfDrop$Room" "standWalls" "[I", Cond.fieldLink RX6 41 "HalfDrop$Room" "standXs" "[I", Cond.fieldLink RX6 44 "HalfDrop$Room" "standYs" "[I", Cond.methodLink RX6 11 yX10_init, Cond.instanceMethod yX10_init, Cond.code yX10_init cX10_init 1 none]
set_option maxRecDepth 20000 in
theorem gU_6 : GoodIn lw_tbl wU_6 := goodIn_r wU_6 [403, 404, 405, 411, 430, 431, 432, 433, 434, 435, 99, 472, 481, 482, 483, 484, 485, 486, 491, 492, 493, 436, 437, 438] (by decide +kernel) (by decide +kernel)
def wU_7 : List Cond := [Cond.methodLink RX10 1 objectInit, Cond.fieldLink RX10 9 "HalfDrop$Walls" "begins" "[I", Cond.fieldLink RX10 13 "HalfDrop$Walls" "lengths" "[I", Cond.fieldLink RX10 16 "HalfDrop$Walls" "lefts" "[I", Cond.fieldLink RX10 19 "HalfDrop$Walls" "rights" "[I", Cond.fieldLink RX10 22 "HalfDrop$Walls" "leans" "[I", Cond.fieldLink RX10 25 "HalfDrop$Walls" "leaning" "[Z", Cond.methodLink RL 12 yX12_init, Cond.instanceMethod yX12_init, Cond.code yX12_init cX12_init 1 none, Cond.methodLink RX12 1 objectInit, Cond.classLink RX12 9 "[[I", Cond.fieldLink RX12 11 "HalfDropModel" "length" "[[I", Cond.fieldLink RX12 14 "HalfDropModel" "high" "[[I", Cond.fieldLink RX12 17 "HalfDropModel" "highTo" "[[I", Cond.fieldLink RX12 20 "HalfDropModel" "lean" "[[I", Cond.fieldLink RX12 23 "HalfDropModel" "openWall" "[[I", Cond.fieldLink RX12 26 "HalfDropModel" "openFrom" "[[I", Cond.fieldLink RX12 29 "HalfDropModel" "openTo" "[[I", Cond.fieldLink RX12 32 "HalfDropModel" "openLow" "[[I", Cond.fieldLink RX12 35 "HalfDropModel" "openHigh" "[[I", Cond.fieldLink RX12 38 "HalfDropModel" "isDoor" "[[I", Cond.fieldLink RX12 41 "HalfDropModel" "standWall" "[[I", Cond.fieldLink RX12 44 "HalfDropModel" "standX" "[[I"]
set_option maxRecDepth 20000 in
theorem gU_7 : GoodIn lw_tbl wU_7 := goodIn_r wU_7 [439, 440, 441, 442, 443, 444, 445, 1277, 1278, 1279, 1280, 1281, 1290, 1291, 1292, 1293, 1294, 1295, 1296, 1297, 1298, 1299, 1300, 1301] (by decide +kernel) (by decide +kernel)
def wU_8 : List Cond := [Cond.fieldLink RX12 47 "HalfDropModel" "standY" "[[I", Cond.fieldLink RX12 50 "HalfDropModel" "walls" "[I", Cond.fieldLink RX12 54 "HalfDropModel" "openings" "[I", Cond.fieldLink RX12 57 "HalfDropModel" "stands" "[I", Cond.fieldLink RX12 60 "HalfDropModel" "leans" "[I", Cond.fieldLink RX12 63 "HalfDropModel" "round" "[I", Cond.arrayClass .byte, Cond.fieldLink RX12 66 "HalfDropModel" "text" "[B", Cond.classLink RX12 70 RJ0, Cond.fieldLink RX12 81 "HalfDropModel" "words" "[Ljava/lang/String;", Cond.fieldLink RX12 85 "HalfDropModel" "width" "[I", Cond.fieldLink RX12 88 "HalfDropModel" "repeat" "[I", Cond.fieldLink RX12 91 "HalfDropModel" "drop" "[I", Cond.fieldLink RX12 94 "HalfDropModel" "roll" "[I", Cond.fieldLink RX12 97 "HalfDropModel" "figureFrom" "[I", Cond.fieldLink RX12 100 "HalfDropModel" "figureHigh" "[I", Cond.fieldLink RX12 103 "HalfDropModel" "trim" "I", Cond.fieldLink RX12 107 "HalfDropModel" "paperOf" "[I", Cond.fieldLink RX12 110 "HalfDropModel" "startOf" "[I", Cond.fieldLink RX12 113 "HalfDropModel" "baseOf" "[I", Cond.fieldLink RX12 116 "HalfDropModel" "hung" "[I", Cond.fieldLink RX12 119 "HalfDropModel" "stripAt" "[I", Cond.fieldLink RX12 122 "HalfDropModel" "stripTall" "[I", Cond.fieldLink RX12 125 "HalfDropModel" "stripFirst" "[I"]
set_option maxRecDepth 20000 in
theorem gU_8 : GoodIn lw_tbl wU_8 := goodIn_r wU_8 [1302, 1303, 1304, 1305, 1306, 1307, 766, 1309, 1283, 1315, 1316, 1317, 1318, 1319, 1320, 1321, 1323, 1324, 1325, 1326, 1327, 1328, 1329, 1330] (by decide +kernel) (by decide +kernel)
def wU_9 : List Cond := [Cond.fieldLink RX12 128 "HalfDropModel" "stripMany" "[I", Cond.fieldLink RX12 131 "HalfDropModel" "pieceStrip" "[I", Cond.fieldLink RX12 134 "HalfDropModel" "pieceFrom" "[I", Cond.fieldLink RX12 137 "HalfDropModel" "pieceTo" "[I", Cond.fieldLink RX12 140 "HalfDropModel" "pieceRoll" "[I", Cond.fieldLink RX12 143 "HalfDropModel" "pieceAt" "[I", Cond.fieldLink RX12 146 "HalfDropModel" "used" "[I", Cond.fieldLink RX12 149 "HalfDropModel" "heap" "[I", Cond.fieldLink RX12 152 "HalfDropModel" "runs" "[I", Cond.fieldLink RX12 155 "HalfDropModel" "batchPaper" "[I", Cond.fieldLink RX12 158 "HalfDropModel" "batchRolls" "[I", Cond.fieldLink RX12 161 "HalfDropModel" "ownRolls" "[I", Cond.fieldLink RX12 164 "HalfDropModel" "from" "[I", Cond.fieldLink RX12 167 "HalfDropModel" "bestFrom" "[I", Cond.fieldLink RX12 170 "HalfDropModel" "given" "[I", Cond.fieldLink RX12 173 "HalfDropModel" "endPaper" "[I", Cond.fieldLink RX12 176 "HalfDropModel" "endLength" "[I", Cond.fieldLink RX12 179 "HalfDropModel" "endPhase" "[I", Cond.fieldLink RX12 182 "HalfDropModel" "keptRooms" "[[I", Cond.fieldLink RX12 185 "HalfDropModel" "keptEnds" "[[I", Cond.fieldLink RX12 188 "HalfDropModel" "keptMany" "[I", Cond.fieldLink RX12 191 "HalfDropModel" "keptRoomMany" "[I", Cond.fieldLink RX12 194 "HalfDropModel" "hasImage" "[Z", Cond.methodLink RL 13 yX11_feed]
set_option maxRecDepth 20000 in
theorem gU_9 : GoodIn lw_tbl wU_9 := goodIn_r wU_9 [1331, 1332, 1333, 1334, 1335, 1336, 1344, 1346, 1347, 1348, 1349, 1350, 1351, 1352, 1353, 1356, 1357, 1358, 1360, 1361, 1362, 1363, 1364, 565] (by decide +kernel) (by decide +kernel)
def wU_10 : List Cond := [Cond.instanceMethod yX11_feed, Cond.selects RX11 yX11_feed yX11_feed, Cond.code yX11_feed cX11_feed 6 (some .int), Cond.fieldLink RX11 106 "HalfDrop$Text" "size" "I", Cond.methodLink RX11 98 yX9_hasSpaceFor, Cond.instanceMethod yX9_hasSpaceFor, Cond.selects RX9 yX9_hasSpaceFor yX9_hasSpaceFor, Cond.code yX9_hasSpaceFor cX9_hasSpaceFor 2 (some .boolean), Cond.fieldLink RX9 22 "HalfDrop$Text" "size" "I", Cond.methodLink RX11 102 yX9_add, Cond.instanceMethod yX9_add, Cond.selects RX9 yX9_add yX9_add, Cond.code yX9_add cX9_add 3 none, Cond.methodLink RX9 26 yX9_hasSpaceFor, Cond.methodLink RL 17 yX12_feed, Cond.instanceMethod yX12_feed, Cond.selects RX12 yX12_feed yX12_feed, Cond.code yX12_feed cX12_feed 6 (some .int), Cond.fieldLink RX12 198 "HalfDropModel" "textMany" "I", Cond.methodLink RX12 201 yX12_feeds, Cond.instanceMethod yX12_feeds, Cond.selects RX12 yX12_feeds yX12_feeds, Cond.code yX12_feeds cX12_feeds 3 none, Cond.methodLink RL 18 yX11_end]
set_option maxRecDepth 20000 in
theorem gU_10 : GoodIn lw_tbl wU_10 := goodIn_r wU_10 [566, 567, 568, 124, 569, 570, 571, 572, 123, 573, 574, 575, 576, 577, 1516, 1517, 1518, 1519, 1310, 1520, 1522, 43, 1523, 578] (by decide +kernel) (by decide +kernel)
def wU_11 : List Cond := [Cond.instanceMethod yX11_end, Cond.selects RX11 yX11_end yX11_end, Cond.code yX11_end cX11_end 2 (some .boolean), Cond.methodLink RX11 109 yX9_shorten, Cond.instanceMethod yX9_shorten, Cond.selects RX9 yX9_shorten yX9_shorten, Cond.code yX9_shorten cX9_shorten 2 (some .boolean), Cond.static yX11_isFrom, Cond.code yX11_isFrom cX11_isFrom 3 (some .boolean), Cond.methodLink RL 22 yX12_end, Cond.instanceMethod yX12_end, Cond.selects RX12 yX12_end yX12_end, Cond.code yX12_end cX12_end 2 (some .boolean), Cond.methodLink RX12 205 yX12_in, Cond.static yX12_in, Cond.code yX12_in cX12_in 6 (some .boolean), Cond.methodLink RL 23 yX11_fault, Cond.instanceMethod yX11_fault, Cond.selects RX11 yX11_fault yX11_fault, Cond.code yX11_fault cX11_fault 1 (some .int), Cond.methodLink RX11 112 yX4_read, Cond.instanceMethod yX4_read, Cond.selects RX4 yX4_read yX4_read, Cond.code yX4_read cX4_read 3 (some .int)]
set_option maxRecDepth 20000 in
theorem gU_11 : GoodIn lw_tbl wU_11 := goodIn_r wU_11 [579, 580, 581, 582, 583, 584, 585, 587, 588, 1524, 1525, 1526, 1527, 1528, 1529, 1530, 589, 590, 591, 592, 593, 594, 595, 596] (by decide +kernel) (by decide +kernel)
def wU_12 : List Cond := [Cond.fieldLink RX4 20 "HalfDrop$Reader" "token" "I", Cond.fieldLink RX4 24 "HalfDrop$Reader" "room" "LHalfDrop$Room;", Cond.fieldLink RX4 45 "HalfDrop$Room" "walls" "LHalfDrop$Walls;", Cond.fieldLink RX4 49 "HalfDrop$Walls" "number" "I", Cond.fieldLink RX4 54 "HalfDrop$Text" "size" "I", Cond.methodLink RX4 15 yX9_split, Cond.instanceMethod yX9_split, Cond.selects RX9 yX9_split yX9_split, Cond.code yX9_split cX9_split 3 none, Cond.fieldLink RX9 36 "HalfDrop$Text" "tokens" "I", Cond.methodLink RX9 47 yX9_addToken, Cond.instanceMethod yX9_addToken, Cond.selects RX9 yX9_addToken yX9_addToken, Cond.code yX9_addToken cX9_addToken 4 none, Cond.methodLink RX4 28 yX6_clear, Cond.instanceMethod yX6_clear, Cond.selects RX6 yX6_clear yX6_clear, Cond.code yX6_clear cX6_clear 1 none, Cond.fieldLink RX6 50 "HalfDrop$Room" "openings" "I", Cond.fieldLink RX6 54 "HalfDrop$Room" "stands" "I", Cond.methodLink RX6 47 yX10_clear, Cond.instanceMethod yX10_clear, Cond.selects RX10 yX10_clear yX10_clear, Cond.code yX10_clear cX10_clear 1 none]
set_option maxRecDepth 20000 in
theorem gU_12 : GoodIn lw_tbl wU_12 := goodIn_r wU_12 [156, 155, 475, 447, 125, 597, 598, 599, 600, 127, 666, 668, 3, 669, 684, 685, 686, 687, 478, 487, 688, 689, 690, 691] (by decide +kernel) (by decide +kernel)
def wU_13 : List Cond := [Cond.fieldLink RX10 29 "HalfDrop$Walls" "number" "I", Cond.fieldLink RX10 33 "HalfDrop$Walls" "round" "I", Cond.methodLink RX4 33 yX4_isNext, Cond.instanceMethod yX4_isNext, Cond.selects RX4 yX4_isNext yX4_isNext, Cond.code yX4_isNext cX4_isNext 2 (some .boolean), Cond.fieldLink RX4 57 "HalfDrop$Text" "tokens" "I", Cond.fieldLink RX4 60 "HalfDrop$Text" "kinds" "[I", Cond.methodLink RL 27 yX12_fault, Cond.instanceMethod yX12_fault, Cond.selects RX12 yX12_fault yX12_fault, Cond.code yX12_fault cX12_fault 1 (some .int), Cond.fieldLink RX12 219 "HalfDropModel" "faultAt" "I", Cond.methodLink RX12 275 yX12_reads, Cond.instanceMethod yX12_reads, Cond.selects RX12 yX12_reads yX12_reads, Cond.code yX12_reads cX12_reads 2 none, Cond.fieldLink RX12 209 "HalfDropModel" "to" "I", Cond.fieldLink RX12 212 "HalfDropModel" "at" "I", Cond.methodLink RX12 222 yX12_next, Cond.instanceMethod yX12_next, Cond.selects RX12 yX12_next yX12_next, Cond.code yX12_next cX12_next 1 none, Cond.methodLink RX12 215 yX12_between]
set_option maxRecDepth 20000 in
theorem gU_13 : GoodIn lw_tbl wU_13 := goodIn_r wU_13 [446, 450, 692, 694, 5, 695, 126, 129, 1531, 1532, 1533, 1534, 1313, 1535, 1537, 44, 1538, 1312, 1311, 1539, 1541, 45, 1542, 1543] (by decide +kernel) (by decide +kernel)
def wU_14 : List Cond := [Cond.instanceMethod yX12_between, Cond.selects RX12 yX12_between yX12_between, Cond.code yX12_between cX12_between 4 (some .boolean), Cond.methodLink RL 28 yX11_room, Cond.instanceMethod yX11_room, Cond.selects RX11 yX11_room yX11_room, Cond.code yX11_room cX11_room 1 (some .int), Cond.methodLink RL 31 yX12_room, Cond.instanceMethod yX12_room, Cond.selects RX12 yX12_room yX12_room, Cond.code yX12_room cX12_room 3 (some .int), Cond.fieldLink RX12 278 "HalfDropModel" "rooms" "I", Cond.methodLink RL 32 yX11_of, Cond.instanceMethod yX11_of, Cond.selects RX11 yX11_of yX11_of, Cond.code yX11_of cX11_of 4 (some .int), Cond.methodLink RX11 116 yX11_roomAt, Cond.instanceMethod yX11_roomAt, Cond.selects RX11 yX11_roomAt yX11_roomAt, Cond.code yX11_roomAt cX11_roomAt 2 (some (.object "HalfDrop$Room")), Cond.methodLink RX11 159 yX11_isFrom, Cond.methodLink RX11 120 yX11_lay, Cond.instanceMethod yX11_lay, Cond.selects RX11 yX11_lay yX11_lay]
set_option maxRecDepth 20000 in
theorem gU_14 : GoodIn lw_tbl wU_14 := goodIn_r wU_14 [1545, 46, 1546, 767, 768, 769, 770, 1590, 1591, 1592, 1593, 1308, 771, 772, 773, 774, 775, 777, 15, 778, 779, 780, 782, 16] (by decide +kernel) (by decide +kernel)
def wU_15 : List Cond := [Cond.code yX11_lay cX11_lay 4 (some .boolean), Cond.methodLink RX11 174 yX11_paperAt, Cond.instanceMethod yX11_paperAt, Cond.selects RX11 yX11_paperAt yX11_paperAt, Cond.code yX11_paperAt cX11_paperAt 2 (some (.object "HalfDrop$Paper")), Cond.initialized RX3, Cond.fieldLink RX3 9 "HalfDrop$Paper" "width" "I", Cond.fieldLink RX3 18 "HalfDrop$Paper" "drop" "I", Cond.fieldLink RX3 15 "HalfDrop$Paper" "repeat" "I", Cond.methodLink RL 36 yX12_of, Cond.instanceMethod yX12_of, Cond.selects RX12 yX12_of yX12_of, Cond.code yX12_of cX12_of 3 (some .int), Cond.methodLink RX12 284 yX12_isRoom, Cond.instanceMethod yX12_isRoom, Cond.selects RX12 yX12_isRoom yX12_isRoom, Cond.code yX12_isRoom cX12_isRoom 2 (some .boolean), Cond.methodLink RX12 362 yX12_isDone, Cond.instanceMethod yX12_isDone, Cond.selects RX12 yX12_isDone yX12_isDone, Cond.code yX12_isDone cX12_isDone 2 (some .boolean), Cond.methodLink RL 37 yX11_height, Cond.instanceMethod yX11_height, Cond.selects RX11 yX11_height yX11_height]
set_option maxRecDepth 20000 in
theorem gU_15 : GoodIn lw_tbl wU_15 := goodIn_r wU_15 [783, 784, 786, 17, 787, 106, 898, 904, 901, 1641, 1642, 1643, 1644, 1598, 1600, 57, 1601, 1645, 1647, 63, 1648, 874, 875, 876] (by decide +kernel) (by decide +kernel)
def wU_16 : List Cond := [Cond.code yX11_height cX11_height 4 (some .int), Cond.methodLink RL 40 yX12_height, Cond.instanceMethod yX12_height, Cond.selects RX12 yX12_height yX12_height, Cond.code yX12_height cX12_height 4 (some .int), Cond.methodLink RL 41 yX11_paper, Cond.instanceMethod yX11_paper, Cond.selects RX11 yX11_paper yX11_paper, Cond.code yX11_paper cX11_paper 6 (some .int), Cond.instantiable RX3 6, Cond.methodLink RX11 167 yX3_canBe, Cond.static yX3_canBe, Cond.code yX3_canBe cX3_canBe 5 (some .boolean), Cond.methodLink RX11 171 yX3_init, Cond.instanceMethod yX3_init, Cond.code yX3_init cX3_init 6 none, Cond.methodLink RX3 3 objectInit, Cond.fieldLink RX3 21 "HalfDrop$Paper" "roll" "I", Cond.fieldLink RX3 24 "HalfDrop$Paper" "figureFrom" "I", Cond.fieldLink RX3 27 "HalfDrop$Paper" "figureHigh" "I", Cond.methodLink RL 44 yX12_paper, Cond.instanceMethod yX12_paper, Cond.selects RX12 yX12_paper yX12_paper, Cond.code yX12_paper cX12_paper 6 (some .int)]
set_option maxRecDepth 20000 in
theorem gU_16 : GoodIn lw_tbl wU_16 := goodIn_r wU_16 [877, 1594, 1595, 1596, 1597, 885, 886, 887, 888, 893, 889, 890, 891, 894, 895, 896, 897, 906, 909, 911, 1615, 1616, 1617, 1618] (by decide +kernel) (by decide +kernel)
def wU_17 : List Cond := [Cond.constantLong RX12 297 (20), Cond.constantLong RX12 299 (120), Cond.constantLong RX12 301 (10), Cond.constantLong RX12 303 (2), Cond.constantLong RX12 305 (300), Cond.constantLong RX12 307 (2000), Cond.fieldLink RX12 309 "HalfDropModel" "papers" "I", Cond.methodLink RL 45 yX11_trim, Cond.instanceMethod yX11_trim, Cond.selects RX11 yX11_trim yX11_trim, Cond.code yX11_trim cX11_trim 2 (some .boolean), Cond.methodLink RL 48 yX12_trim, Cond.instanceMethod yX12_trim, Cond.selects RX12 yX12_trim yX12_trim, Cond.code yX12_trim cX12_trim 2 (some .boolean), Cond.methodLink RL 49 yX11_done, Cond.instanceMethod yX11_done, Cond.selects RX11 yX11_done yX11_done, Cond.code yX11_done cX11_done 7 (some .int), Cond.methodLink RL 53 yX12_done, Cond.instanceMethod yX12_done, Cond.selects RX12 yX12_done yX12_done, Cond.code yX12_done cX12_done 5 (some .int), Cond.methodLink RX12 312 yX12_isPaper]
set_option maxRecDepth 20000 in
theorem gU_17 : GoodIn lw_tbl wU_17 := goodIn_r wU_17 [1619, 1620, 1621, 1622, 1623, 1624, 1322, 926, 927, 928, 929, 1625, 1626, 1627, 1628, 930, 931, 932, 933, 1629, 1630, 1631, 1632, 1633] (by decide +kernel) (by decide +kernel)
def wU_18 : List Cond := [Cond.instanceMethod yX12_isPaper, Cond.selects RX12 yX12_isPaper yX12_isPaper, Cond.code yX12_isPaper cX12_isPaper 2 (some .boolean), Cond.methodLink RL 54 yX11_strip, Cond.instanceMethod yX11_strip, Cond.selects RX11 yX11_strip yX11_strip, Cond.code yX11_strip cX11_strip 4 (some .int), Cond.methodLink RL 58 yX12_strip, Cond.instanceMethod yX12_strip, Cond.selects RX12 yX12_strip yX12_strip, Cond.code yX12_strip cX12_strip 4 (some .int), Cond.methodLink RL 59 yX11_piece, Cond.instanceMethod yX11_piece, Cond.selects RX11 yX11_piece yX11_piece, Cond.code yX11_piece cX11_piece 4 (some .int), Cond.methodLink RL 62 yX12_piece, Cond.instanceMethod yX12_piece, Cond.selects RX12 yX12_piece yX12_piece, Cond.code yX12_piece cX12_piece 4 (some .int), Cond.methodLink RL 63 yX11_rolls, Cond.instanceMethod yX11_rolls, Cond.selects RX11 yX11_rolls yX11_rolls, Cond.code yX11_rolls cX11_rolls 3 (some .int), Cond.methodLink RL 66 yX12_rolls]
set_option maxRecDepth 20000 in
theorem gU_18 : GoodIn lw_tbl wU_18 := goodIn_r wU_18 [1635, 61, 1636, 935, 936, 937, 938, 1672, 1673, 1674, 1675, 942, 943, 944, 945, 1680, 1681, 1682, 1683, 970, 971, 972, 973, 1708] (by decide +kernel) (by decide +kernel)
def wU_19 : List Cond := [Cond.instanceMethod yX12_rolls, Cond.selects RX12 yX12_rolls yX12_rolls, Cond.code yX12_rolls cX12_rolls 5 (some .int), Cond.methodLink RL 67 yX11_left, Cond.instanceMethod yX11_left, Cond.selects RX11 yX11_left yX11_left, Cond.code yX11_left cX11_left 4 (some .int), Cond.methodLink RL 70 yX12_left, Cond.instanceMethod yX12_left, Cond.selects RX12 yX12_left yX12_left, Cond.code yX12_left cX12_left 4 (some .int), Cond.methodLink RL 71 yX11_faults, Cond.instanceMethod yX11_faults, Cond.selects RX11 yX11_faults yX11_faults, Cond.code yX11_faults cX11_faults 4 (some .int), Cond.methodLink RL 74 yX12_faults, Cond.instanceMethod yX12_faults, Cond.selects RX12 yX12_faults yX12_faults, Cond.code yX12_faults cX12_faults 4 (some .int), Cond.methodLink RL 75 yX11_best, Cond.instanceMethod yX11_best, Cond.selects RX11 yX11_best yX11_best, Cond.code yX11_best cX11_best 7 (some .int), Cond.methodLink RL 78 yX12_best]
set_option maxRecDepth 20000 in
theorem gU_19 : GoodIn lw_tbl wU_19 := goodIn_r wU_19 [1709, 1710, 1711, 992, 993, 994, 995, 1716, 1717, 1718, 1719, 997, 998, 999, 1000, 1720, 1721, 1722, 1723, 1067, 1068, 1069, 1070, 1746] (by decide +kernel) (by decide +kernel)
def wU_20 : List Cond := [Cond.instanceMethod yX12_best, Cond.selects RX12 yX12_best yX12_best, Cond.code yX12_best cX12_best 11 (some .int), Cond.methodLink RL 79 yX11_shown, Cond.instanceMethod yX11_shown, Cond.selects RX11 yX11_shown yX11_shown, Cond.code yX11_shown cX11_shown 4 (some .int), Cond.methodLink RL 82 yX12_shown, Cond.instanceMethod yX12_shown, Cond.selects RX12 yX12_shown yX12_shown, Cond.code yX12_shown cX12_shown 3 (some .int), Cond.methodLink RX12 425 yX12_areCuts, Cond.instanceMethod yX12_areCuts, Cond.selects RX12 yX12_areCuts yX12_areCuts, Cond.code yX12_areCuts cX12_areCuts 3 (some .boolean), Cond.methodLink RL 83 yX11_run, Cond.instanceMethod yX11_run, Cond.selects RX11 yX11_run yX11_run, Cond.code yX11_run cX11_run 5 (some .int), Cond.constant RX11 297 (-2147483648), Cond.methodLink RL 86 yX12_run, Cond.instanceMethod yX12_run, Cond.selects RX12 yX12_run yX12_run, Cond.code yX12_run cX12_run 5 (some .int)]
set_option maxRecDepth 20000 in
theorem gU_20 : GoodIn lw_tbl wU_20 := goodIn_r wU_20 [1747, 1748, 1749, 1088, 1089, 1090, 1091, 1751, 1752, 1753, 1754, 1755, 1757, 81, 1758, 1111, 1112, 1113, 1114, 1115, 1764, 1765, 1766, 1767] (by decide +kernel) (by decide +kernel)
def wU_21 : List Cond := [Cond.constant RX12 431 (-2147483648), Cond.methodLink RL 87 yX11_cuts, Cond.instanceMethod yX11_cuts, Cond.selects RX11 yX11_cuts yX11_cuts, Cond.code yX11_cuts cX11_cuts 3 (some .int), Cond.methodLink RL 91 yX12_cuts_, Cond.instanceMethod yX12_cuts_, Cond.selects RX12 yX12_cuts_ yX12_cuts_, Cond.code yX12_cuts_ cX12_cuts_ 6 (some .int), Cond.methodLink RL 92 yX11_batch, Cond.instanceMethod yX11_batch, Cond.selects RX11 yX11_batch yX11_batch, Cond.code yX11_batch cX11_batch 3 (some .int), Cond.methodLink RL 95 yX12_batch, Cond.instanceMethod yX12_batch, Cond.selects RX12 yX12_batch yX12_batch, Cond.code yX12_batch cX12_batch 3 (some .int), Cond.fieldLink RX12 434 "HalfDropModel" "batches" "I", Cond.methodLink RL 96 yX11_shared, Cond.instanceMethod yX11_shared, Cond.selects RX11 yX11_shared yX11_shared, Cond.code yX11_shared cX11_shared 3 (some .int), Cond.methodLink RL 99 yX12_shared, Cond.instanceMethod yX12_shared]
set_option maxRecDepth 20000 in
theorem gU_21 : GoodIn lw_tbl wU_21 := goodIn_r wU_21 [1768, 1120, 1121, 1122, 1123, 1769, 1770, 1771, 1772, 1130, 1131, 1132, 1133, 1773, 1774, 1775, 1776, 1354, 1139, 1140, 1141, 1142, 1786, 1787] (by decide +kernel) (by decide +kernel)
def wU_22 : List Cond := [Cond.selects RX12 yX12_shared yX12_shared, Cond.code yX12_shared cX12_shared 4 (some .int), Cond.methodLink RL 100 yX11_own, Cond.instanceMethod yX11_own, Cond.selects RX11 yX11_own yX11_own, Cond.code yX11_own cX11_own 3 (some .int), Cond.methodLink RL 103 yX12_own, Cond.instanceMethod yX12_own, Cond.selects RX12 yX12_own yX12_own, Cond.code yX12_own cX12_own 3 (some .int), Cond.methodLink RL 104 yX11_all, Cond.instanceMethod yX11_all, Cond.selects RX11 yX11_all yX11_all, Cond.code yX11_all cX11_all 4 (some .int), Cond.methodLink RL 107 yX12_all, Cond.instanceMethod yX12_all, Cond.selects RX12 yX12_all yX12_all, Cond.code yX12_all cX12_all 4 (some .int), Cond.methodLink RL 108 yX11_keep, Cond.instanceMethod yX11_keep, Cond.selects RX11 yX11_keep yX11_keep, Cond.code yX11_keep cX11_keep 5 (some .int), Cond.fieldLink RX8 33 "HalfDrop$State" "ends" "I", Cond.methodLink RL 111 yX12_keep]
set_option maxRecDepth 20000 in
theorem gU_22 : GoodIn lw_tbl wU_22 := goodIn_r wU_22 [1788, 1789, 1181, 1182, 1183, 1184, 1778, 1779, 1780, 1781, 1185, 1186, 1187, 1188, 1798, 1799, 1800, 1801, 1189, 1190, 1191, 1192, 182, 1802] (by decide +kernel) (by decide +kernel)
def wU_23 : List Cond := [Cond.instanceMethod yX12_keep, Cond.selects RX12 yX12_keep yX12_keep, Cond.code yX12_keep cX12_keep 4 (some .int), Cond.fieldLink RX12 449 "HalfDropModel" "ends" "I", Cond.methodLink RL 112 yX11_mended, Cond.instanceMethod yX11_mended, Cond.selects RX11 yX11_mended yX11_mended, Cond.code yX11_mended cX11_mended 3 (some .int), Cond.methodLink RL 115 yX12_mended, Cond.instanceMethod yX12_mended, Cond.selects RX12 yX12_mended yX12_mended, Cond.code yX12_mended cX12_mended 9 (some .int), Cond.methodLink RL 116 yX11_border, Cond.instanceMethod yX11_border, Cond.selects RX11 yX11_border yX11_border, Cond.code yX11_border cX11_border 5 (some .int), Cond.methodLink RL 119 yX12_border, Cond.instanceMethod yX12_border, Cond.selects RX12 yX12_border yX12_border, Cond.code yX12_border cX12_border 6 (some .int), Cond.methodLink RL 120 yX11_day, Cond.instanceMethod yX11_day, Cond.selects RX11 yX11_day yX11_day, Cond.code yX11_day cX11_day 7 (some .int)]
set_option maxRecDepth 20000 in
theorem gU_23 : GoodIn lw_tbl wU_23 := goodIn_r wU_23 [1803, 1804, 1805, 1359, 1198, 1199, 1200, 1201, 1806, 1807, 1808, 1809, 1224, 1225, 1226, 1227, 1814, 1815, 1816, 1817, 1233, 1234, 1235, 1236] (by decide +kernel) (by decide +kernel)
def wU_24 : List Cond := [Cond.methodLink RL 123 yX12_day, Cond.instanceMethod yX12_day, Cond.selects RX12 yX12_day yX12_day, Cond.code yX12_day cX12_day 20 (some .int), Cond.methodLink RL 124 yX11_hang, Cond.instanceMethod yX11_hang, Cond.selects RX11 yX11_hang yX11_hang, Cond.code yX11_hang cX11_hang 3 (some .int), Cond.methodLink RL 127 yX12_hang, Cond.instanceMethod yX12_hang, Cond.selects RX12 yX12_hang yX12_hang, Cond.code yX12_hang cX12_hang 3 (some .int), Cond.methodLink RL 128 yX11_image, Cond.instanceMethod yX11_image, Cond.selects RX11 yX11_image yX11_image, Cond.code yX11_image cX11_image 2 (some .boolean), Cond.methodLink RX11 353 yX8_copyFrom, Cond.instanceMethod yX8_copyFrom, Cond.selects RX8 yX8_copyFrom yX8_copyFrom, Cond.code yX8_copyFrom cX8_copyFrom 3 none, Cond.methodLink RL 131 yX12_image, Cond.instanceMethod yX12_image, Cond.selects RX12 yX12_image yX12_image, Cond.code yX12_image cX12_image 3 (some .boolean)]
set_option maxRecDepth 20000 in
theorem gU_24 : GoodIn lw_tbl wU_24 := goodIn_r wU_24 [1819, 1820, 1821, 1822, 1255, 1256, 1257, 1258, 1828, 1829, 1830, 1831, 1259, 1260, 1261, 1262, 1263, 1264, 1265, 1266, 1832, 1833, 1834, 1835] (by decide +kernel) (by decide +kernel)
def wU_25 : List Cond := [Cond.methodLink RL 132 yX11_on, Cond.instanceMethod yX11_on, Cond.selects RX11 yX11_on yX11_on, Cond.code yX11_on cX11_on 2 (some .boolean), Cond.methodLink RL 135 yX12_on, Cond.instanceMethod yX12_on, Cond.selects RX12 yX12_on yX12_on, Cond.code yX12_on cX12_on 4 (some .boolean), Cond.methodLink RL 136 yX11_count, Cond.instanceMethod yX11_count, Cond.selects RX11 yX11_count yX11_count, Cond.code yX11_count cX11_count 2 (some .int), Cond.fieldLink RX11 357 "HalfDrop$Sharing" "batches" "I", Cond.fieldLink RX11 360 "HalfDrop$State" "ends" "I", Cond.methodLink RL 139 yX12_count, Cond.instanceMethod yX12_count, Cond.selects RX12 yX12_count yX12_count, Cond.code yX12_count cX12_count 2 (some .int)]
set_option maxRecDepth 20000 in
theorem gU_25 : GoodIn lw_tbl wU_25 := goodIn_r wU_25 [1267, 1268, 1269, 1270, 1836, 1837, 1838, 1839, 1271, 1272, 1273, 1274, 359, 183, 1840, 1841, 1842, 1843] (by decide +kernel) (by decide +kernel)
set_option maxRecDepth 20000 in
theorem gU_X0 : GoodIn lw_tbl wsX00 := goodIn_r wsX00 [414, 416, 418, 420, 422, 424, 426] (by decide +kernel) (by decide +kernel)
set_option maxRecDepth 20000 in
theorem gU_X1 : GoodIn lw_tbl wsX10 := goodIn_r wsX10 [333, 335, 337, 339, 341, 343, 345, 347, 349] (by decide +kernel) (by decide +kernel)
set_option maxRecDepth 20000 in
theorem gU_X2 : GoodIn lw_tbl wsX20 := goodIn_r wsX20 [247, 249, 251, 253, 255, 257, 259, 261, 263, 265, 267, 269, 271, 273, 275, 277] (by decide +kernel) (by decide +kernel)
set_option maxRecDepth 20000 in
theorem gU_X3 : GoodIn lw_tbl wsX30 := goodIn_r wsX30 [913, 915, 917, 919, 921, 923] (by decide +kernel) (by decide +kernel)
set_option maxRecDepth 20000 in
theorem gU_X4 : GoodIn lw_tbl wsX40 := goodIn_r wsX40 [157, 159, 161] (by decide +kernel) (by decide +kernel)
set_option maxRecDepth 20000 in
theorem gU_X5 : GoodIn lw_tbl wsX50 := goodIn_r wsX50 [298, 300, 302, 304, 306, 308, 310, 312] (by decide +kernel) (by decide +kernel)
set_option maxRecDepth 20000 in
theorem gU_X6 : GoodIn lw_tbl wsX60 := goodIn_r wsX60 [494, 496, 498, 500, 502, 504, 506, 508, 510, 512, 514, 516] (by decide +kernel) (by decide +kernel)
set_option maxRecDepth 20000 in
theorem gU_X7 : GoodIn lw_tbl wsX70 := goodIn_r wsX70 [374, 376, 378, 380, 382, 384, 386, 388, 390, 392, 394, 396] (by decide +kernel) (by decide +kernel)
set_option maxRecDepth 20000 in
theorem gU_X8 : GoodIn lw_tbl wsX80 := goodIn_r wsX80 [187, 189, 191, 193, 195, 197, 199, 201] (by decide +kernel) (by decide +kernel)
set_option maxRecDepth 20000 in
theorem gU_X9 : GoodIn lw_tbl wsX90 := goodIn_r wsX90 [134, 136, 138, 140, 142, 144] (by decide +kernel) (by decide +kernel)
set_option maxRecDepth 20000 in
theorem gU_X10 : GoodIn lw_tbl wsX100 := goodIn_r wsX100 [455, 457, 459, 461, 463, 465, 467, 469] (by decide +kernel) (by decide +kernel)
set_option maxRecDepth 20000 in
theorem gU_X11 : GoodIn lw_tbl wsX110 := goodIn_r wsX110 [534, 536, 538, 540, 542, 544, 546, 548, 550, 552, 554, 556, 558, 560, 562] (by decide +kernel) (by decide +kernel)
set_option maxRecDepth 20000 in
theorem gU_X12 : GoodIn lw_tbl wsX120 := goodIn_r wsX120 [1365, 1367, 1369, 1371, 1373, 1375, 1377, 1379, 1381, 1383, 1385, 1387, 1389, 1391, 1393, 1395, 1397, 1399, 1401, 1403, 1405, 1407, 1409, 1411, 1413, 1415, 1417, 1419, 1421, 1423, 1425, 1427, 1429, 1431, 1433, 1435, 1437, 1439, 1441, 1443, 1445, 1447, 1449, 1451, 1453, 1455, 1457, 1459, 1461, 1463, 1465, 1467, 1469, 1471, 1473, 1475, 1477, 1479, 1481, 1483, 1485, 1487, 1489, 1491, 1493, 1495, 1497, 1499, 1501, 1503, 1505, 1507, 1509, 1511, 1513] (by decide +kernel) (by decide +kernel)
def wU : List Cond := (wU_1 ++ (wU_2 ++ (wU_3 ++ (wU_4 ++ (wU_5 ++ (wU_6 ++ (wU_7 ++ (wU_8 ++ (wU_9 ++ (wU_10 ++ (wU_11 ++ (wU_12 ++ (wU_13 ++ (wU_14 ++ (wU_15 ++ (wU_16 ++ (wU_17 ++ (wU_18 ++ (wU_19 ++ (wU_20 ++ (wU_21 ++ (wU_22 ++ (wU_23 ++ (wU_24 ++ (wU_25))))))))))))))))))))))))) ++ wsX00 ++ wsX10 ++ wsX20 ++ wsX30 ++ wsX40 ++ wsX50 ++ wsX60 ++ wsX70 ++ wsX80 ++ wsX90 ++ wsX100 ++ wsX110 ++ wsX120
theorem gU : GoodIn lw_tbl wU := (goodIn_app (goodIn_app (goodIn_app (goodIn_app (goodIn_app (goodIn_app (goodIn_app (goodIn_app (goodIn_app (goodIn_app (goodIn_app (goodIn_app (goodIn_app (goodIn_app gU_1 (goodIn_app gU_2 (goodIn_app gU_3 (goodIn_app gU_4 (goodIn_app gU_5 (goodIn_app gU_6 (goodIn_app gU_7 (goodIn_app gU_8 (goodIn_app gU_9 (goodIn_app gU_10 (goodIn_app gU_11 (goodIn_app gU_12 (goodIn_app gU_13 (goodIn_app gU_14 (goodIn_app gU_15 (goodIn_app gU_16 (goodIn_app gU_17 (goodIn_app gU_18 (goodIn_app gU_19 (goodIn_app gU_20 (goodIn_app gU_21 (goodIn_app gU_22 (goodIn_app gU_23 (goodIn_app gU_24 gU_25)))))))))))))))))))))))) gU_X0) gU_X1) gU_X2) gU_X3) gU_X4) gU_X5) gU_X6) gU_X7) gU_X8) gU_X9) gU_X10) gU_X11) gU_X12)
theorem in_U1 : ∀ w ∈ wU_1, w ∈ wU := fun _ h => (List.mem_append_left _ (List.mem_append_left _ (List.mem_append_left _ (List.mem_append_left _ (List.mem_append_left _ (List.mem_append_left _ (List.mem_append_left _ (List.mem_append_left _ (List.mem_append_left _ (List.mem_append_left _ (List.mem_append_left _ (List.mem_append_left _ (List.mem_append_left _ (List.mem_append_left _ h))))))))))))))
theorem in_U2 : ∀ w ∈ wU_2, w ∈ wU := fun _ h => (List.mem_append_left _ (List.mem_append_left _ (List.mem_append_left _ (List.mem_append_left _ (List.mem_append_left _ (List.mem_append_left _ (List.mem_append_left _ (List.mem_append_left _ (List.mem_append_left _ (List.mem_append_left _ (List.mem_append_left _ (List.mem_append_left _ (List.mem_append_left _ (List.mem_append_right _ (List.mem_append_left _ h)))))))))))))))
theorem in_U3 : ∀ w ∈ wU_3, w ∈ wU := fun _ h => (List.mem_append_left _ (List.mem_append_left _ (List.mem_append_left _ (List.mem_append_left _ (List.mem_append_left _ (List.mem_append_left _ (List.mem_append_left _ (List.mem_append_left _ (List.mem_append_left _ (List.mem_append_left _ (List.mem_append_left _ (List.mem_append_left _ (List.mem_append_left _ (List.mem_append_right _ (List.mem_append_right _ (List.mem_append_left _ h))))))))))))))))
theorem in_U4 : ∀ w ∈ wU_4, w ∈ wU := fun _ h => (List.mem_append_left _ (List.mem_append_left _ (List.mem_append_left _ (List.mem_append_left _ (List.mem_append_left _ (List.mem_append_left _ (List.mem_append_left _ (List.mem_append_left _ (List.mem_append_left _ (List.mem_append_left _ (List.mem_append_left _ (List.mem_append_left _ (List.mem_append_left _ (List.mem_append_right _ (List.mem_append_right _ (List.mem_append_right _ (List.mem_append_left _ h)))))))))))))))))
theorem in_U5 : ∀ w ∈ wU_5, w ∈ wU := fun _ h => (List.mem_append_left _ (List.mem_append_left _ (List.mem_append_left _ (List.mem_append_left _ (List.mem_append_left _ (List.mem_append_left _ (List.mem_append_left _ (List.mem_append_left _ (List.mem_append_left _ (List.mem_append_left _ (List.mem_append_left _ (List.mem_append_left _ (List.mem_append_left _ (List.mem_append_right _ (List.mem_append_right _ (List.mem_append_right _ (List.mem_append_right _ (List.mem_append_left _ h))))))))))))))))))
theorem in_U6 : ∀ w ∈ wU_6, w ∈ wU := fun _ h => (List.mem_append_left _ (List.mem_append_left _ (List.mem_append_left _ (List.mem_append_left _ (List.mem_append_left _ (List.mem_append_left _ (List.mem_append_left _ (List.mem_append_left _ (List.mem_append_left _ (List.mem_append_left _ (List.mem_append_left _ (List.mem_append_left _ (List.mem_append_left _ (List.mem_append_right _ (List.mem_append_right _ (List.mem_append_right _ (List.mem_append_right _ (List.mem_append_right _ (List.mem_append_left _ h)))))))))))))))))))
theorem in_U7 : ∀ w ∈ wU_7, w ∈ wU := fun _ h => (List.mem_append_left _ (List.mem_append_left _ (List.mem_append_left _ (List.mem_append_left _ (List.mem_append_left _ (List.mem_append_left _ (List.mem_append_left _ (List.mem_append_left _ (List.mem_append_left _ (List.mem_append_left _ (List.mem_append_left _ (List.mem_append_left _ (List.mem_append_left _ (List.mem_append_right _ (List.mem_append_right _ (List.mem_append_right _ (List.mem_append_right _ (List.mem_append_right _ (List.mem_append_right _ (List.mem_append_left _ h))))))))))))))))))))
theorem in_U8 : ∀ w ∈ wU_8, w ∈ wU := fun _ h => (List.mem_append_left _ (List.mem_append_left _ (List.mem_append_left _ (List.mem_append_left _ (List.mem_append_left _ (List.mem_append_left _ (List.mem_append_left _ (List.mem_append_left _ (List.mem_append_left _ (List.mem_append_left _ (List.mem_append_left _ (List.mem_append_left _ (List.mem_append_left _ (List.mem_append_right _ (List.mem_append_right _ (List.mem_append_right _ (List.mem_append_right _ (List.mem_append_right _ (List.mem_append_right _ (List.mem_append_right _ (List.mem_append_left _ h)))))))))))))))))))))
theorem in_U9 : ∀ w ∈ wU_9, w ∈ wU := fun _ h => (List.mem_append_left _ (List.mem_append_left _ (List.mem_append_left _ (List.mem_append_left _ (List.mem_append_left _ (List.mem_append_left _ (List.mem_append_left _ (List.mem_append_left _ (List.mem_append_left _ (List.mem_append_left _ (List.mem_append_left _ (List.mem_append_left _ (List.mem_append_left _ (List.mem_append_right _ (List.mem_append_right _ (List.mem_append_right _ (List.mem_append_right _ (List.mem_append_right _ (List.mem_append_right _ (List.mem_append_right _ (List.mem_append_right _ (List.mem_append_left _ h))))))))))))))))))))))
theorem in_U10 : ∀ w ∈ wU_10, w ∈ wU := fun _ h => (List.mem_append_left _ (List.mem_append_left _ (List.mem_append_left _ (List.mem_append_left _ (List.mem_append_left _ (List.mem_append_left _ (List.mem_append_left _ (List.mem_append_left _ (List.mem_append_left _ (List.mem_append_left _ (List.mem_append_left _ (List.mem_append_left _ (List.mem_append_left _ (List.mem_append_right _ (List.mem_append_right _ (List.mem_append_right _ (List.mem_append_right _ (List.mem_append_right _ (List.mem_append_right _ (List.mem_append_right _ (List.mem_append_right _ (List.mem_append_right _ (List.mem_append_left _ h)))))))))))))))))))))))
theorem in_U11 : ∀ w ∈ wU_11, w ∈ wU := fun _ h => (List.mem_append_left _ (List.mem_append_left _ (List.mem_append_left _ (List.mem_append_left _ (List.mem_append_left _ (List.mem_append_left _ (List.mem_append_left _ (List.mem_append_left _ (List.mem_append_left _ (List.mem_append_left _ (List.mem_append_left _ (List.mem_append_left _ (List.mem_append_left _ (List.mem_append_right _ (List.mem_append_right _ (List.mem_append_right _ (List.mem_append_right _ (List.mem_append_right _ (List.mem_append_right _ (List.mem_append_right _ (List.mem_append_right _ (List.mem_append_right _ (List.mem_append_right _ (List.mem_append_left _ h))))))))))))))))))))))))
theorem in_U12 : ∀ w ∈ wU_12, w ∈ wU := fun _ h => (List.mem_append_left _ (List.mem_append_left _ (List.mem_append_left _ (List.mem_append_left _ (List.mem_append_left _ (List.mem_append_left _ (List.mem_append_left _ (List.mem_append_left _ (List.mem_append_left _ (List.mem_append_left _ (List.mem_append_left _ (List.mem_append_left _ (List.mem_append_left _ (List.mem_append_right _ (List.mem_append_right _ (List.mem_append_right _ (List.mem_append_right _ (List.mem_append_right _ (List.mem_append_right _ (List.mem_append_right _ (List.mem_append_right _ (List.mem_append_right _ (List.mem_append_right _ (List.mem_append_right _ (List.mem_append_left _ h)))))))))))))))))))))))))
theorem in_U13 : ∀ w ∈ wU_13, w ∈ wU := fun _ h => (List.mem_append_left _ (List.mem_append_left _ (List.mem_append_left _ (List.mem_append_left _ (List.mem_append_left _ (List.mem_append_left _ (List.mem_append_left _ (List.mem_append_left _ (List.mem_append_left _ (List.mem_append_left _ (List.mem_append_left _ (List.mem_append_left _ (List.mem_append_left _ (List.mem_append_right _ (List.mem_append_right _ (List.mem_append_right _ (List.mem_append_right _ (List.mem_append_right _ (List.mem_append_right _ (List.mem_append_right _ (List.mem_append_right _ (List.mem_append_right _ (List.mem_append_right _ (List.mem_append_right _ (List.mem_append_right _ (List.mem_append_left _ h))))))))))))))))))))))))))
theorem in_U14 : ∀ w ∈ wU_14, w ∈ wU := fun _ h => (List.mem_append_left _ (List.mem_append_left _ (List.mem_append_left _ (List.mem_append_left _ (List.mem_append_left _ (List.mem_append_left _ (List.mem_append_left _ (List.mem_append_left _ (List.mem_append_left _ (List.mem_append_left _ (List.mem_append_left _ (List.mem_append_left _ (List.mem_append_left _ (List.mem_append_right _ (List.mem_append_right _ (List.mem_append_right _ (List.mem_append_right _ (List.mem_append_right _ (List.mem_append_right _ (List.mem_append_right _ (List.mem_append_right _ (List.mem_append_right _ (List.mem_append_right _ (List.mem_append_right _ (List.mem_append_right _ (List.mem_append_right _ (List.mem_append_left _ h)))))))))))))))))))))))))))
theorem in_U15 : ∀ w ∈ wU_15, w ∈ wU := fun _ h => (List.mem_append_left _ (List.mem_append_left _ (List.mem_append_left _ (List.mem_append_left _ (List.mem_append_left _ (List.mem_append_left _ (List.mem_append_left _ (List.mem_append_left _ (List.mem_append_left _ (List.mem_append_left _ (List.mem_append_left _ (List.mem_append_left _ (List.mem_append_left _ (List.mem_append_right _ (List.mem_append_right _ (List.mem_append_right _ (List.mem_append_right _ (List.mem_append_right _ (List.mem_append_right _ (List.mem_append_right _ (List.mem_append_right _ (List.mem_append_right _ (List.mem_append_right _ (List.mem_append_right _ (List.mem_append_right _ (List.mem_append_right _ (List.mem_append_right _ (List.mem_append_left _ h))))))))))))))))))))))))))))
theorem in_U16 : ∀ w ∈ wU_16, w ∈ wU := fun _ h => (List.mem_append_left _ (List.mem_append_left _ (List.mem_append_left _ (List.mem_append_left _ (List.mem_append_left _ (List.mem_append_left _ (List.mem_append_left _ (List.mem_append_left _ (List.mem_append_left _ (List.mem_append_left _ (List.mem_append_left _ (List.mem_append_left _ (List.mem_append_left _ (List.mem_append_right _ (List.mem_append_right _ (List.mem_append_right _ (List.mem_append_right _ (List.mem_append_right _ (List.mem_append_right _ (List.mem_append_right _ (List.mem_append_right _ (List.mem_append_right _ (List.mem_append_right _ (List.mem_append_right _ (List.mem_append_right _ (List.mem_append_right _ (List.mem_append_right _ (List.mem_append_right _ (List.mem_append_left _ h)))))))))))))))))))))))))))))
theorem in_U17 : ∀ w ∈ wU_17, w ∈ wU := fun _ h => (List.mem_append_left _ (List.mem_append_left _ (List.mem_append_left _ (List.mem_append_left _ (List.mem_append_left _ (List.mem_append_left _ (List.mem_append_left _ (List.mem_append_left _ (List.mem_append_left _ (List.mem_append_left _ (List.mem_append_left _ (List.mem_append_left _ (List.mem_append_left _ (List.mem_append_right _ (List.mem_append_right _ (List.mem_append_right _ (List.mem_append_right _ (List.mem_append_right _ (List.mem_append_right _ (List.mem_append_right _ (List.mem_append_right _ (List.mem_append_right _ (List.mem_append_right _ (List.mem_append_right _ (List.mem_append_right _ (List.mem_append_right _ (List.mem_append_right _ (List.mem_append_right _ (List.mem_append_right _ (List.mem_append_left _ h))))))))))))))))))))))))))))))
theorem in_U18 : ∀ w ∈ wU_18, w ∈ wU := fun _ h => (List.mem_append_left _ (List.mem_append_left _ (List.mem_append_left _ (List.mem_append_left _ (List.mem_append_left _ (List.mem_append_left _ (List.mem_append_left _ (List.mem_append_left _ (List.mem_append_left _ (List.mem_append_left _ (List.mem_append_left _ (List.mem_append_left _ (List.mem_append_left _ (List.mem_append_right _ (List.mem_append_right _ (List.mem_append_right _ (List.mem_append_right _ (List.mem_append_right _ (List.mem_append_right _ (List.mem_append_right _ (List.mem_append_right _ (List.mem_append_right _ (List.mem_append_right _ (List.mem_append_right _ (List.mem_append_right _ (List.mem_append_right _ (List.mem_append_right _ (List.mem_append_right _ (List.mem_append_right _ (List.mem_append_right _ (List.mem_append_left _ h)))))))))))))))))))))))))))))))
theorem in_U19 : ∀ w ∈ wU_19, w ∈ wU := fun _ h => (List.mem_append_left _ (List.mem_append_left _ (List.mem_append_left _ (List.mem_append_left _ (List.mem_append_left _ (List.mem_append_left _ (List.mem_append_left _ (List.mem_append_left _ (List.mem_append_left _ (List.mem_append_left _ (List.mem_append_left _ (List.mem_append_left _ (List.mem_append_left _ (List.mem_append_right _ (List.mem_append_right _ (List.mem_append_right _ (List.mem_append_right _ (List.mem_append_right _ (List.mem_append_right _ (List.mem_append_right _ (List.mem_append_right _ (List.mem_append_right _ (List.mem_append_right _ (List.mem_append_right _ (List.mem_append_right _ (List.mem_append_right _ (List.mem_append_right _ (List.mem_append_right _ (List.mem_append_right _ (List.mem_append_right _ (List.mem_append_right _ (List.mem_append_left _ h))))))))))))))))))))))))))))))))
theorem in_U20 : ∀ w ∈ wU_20, w ∈ wU := fun _ h => (List.mem_append_left _ (List.mem_append_left _ (List.mem_append_left _ (List.mem_append_left _ (List.mem_append_left _ (List.mem_append_left _ (List.mem_append_left _ (List.mem_append_left _ (List.mem_append_left _ (List.mem_append_left _ (List.mem_append_left _ (List.mem_append_left _ (List.mem_append_left _ (List.mem_append_right _ (List.mem_append_right _ (List.mem_append_right _ (List.mem_append_right _ (List.mem_append_right _ (List.mem_append_right _ (List.mem_append_right _ (List.mem_append_right _ (List.mem_append_right _ (List.mem_append_right _ (List.mem_append_right _ (List.mem_append_right _ (List.mem_append_right _ (List.mem_append_right _ (List.mem_append_right _ (List.mem_append_right _ (List.mem_append_right _ (List.mem_append_right _ (List.mem_append_right _ (List.mem_append_left _ h)))))))))))))))))))))))))))))))))
theorem in_U21 : ∀ w ∈ wU_21, w ∈ wU := fun _ h => (List.mem_append_left _ (List.mem_append_left _ (List.mem_append_left _ (List.mem_append_left _ (List.mem_append_left _ (List.mem_append_left _ (List.mem_append_left _ (List.mem_append_left _ (List.mem_append_left _ (List.mem_append_left _ (List.mem_append_left _ (List.mem_append_left _ (List.mem_append_left _ (List.mem_append_right _ (List.mem_append_right _ (List.mem_append_right _ (List.mem_append_right _ (List.mem_append_right _ (List.mem_append_right _ (List.mem_append_right _ (List.mem_append_right _ (List.mem_append_right _ (List.mem_append_right _ (List.mem_append_right _ (List.mem_append_right _ (List.mem_append_right _ (List.mem_append_right _ (List.mem_append_right _ (List.mem_append_right _ (List.mem_append_right _ (List.mem_append_right _ (List.mem_append_right _ (List.mem_append_right _ (List.mem_append_left _ h))))))))))))))))))))))))))))))))))
theorem in_U22 : ∀ w ∈ wU_22, w ∈ wU := fun _ h => (List.mem_append_left _ (List.mem_append_left _ (List.mem_append_left _ (List.mem_append_left _ (List.mem_append_left _ (List.mem_append_left _ (List.mem_append_left _ (List.mem_append_left _ (List.mem_append_left _ (List.mem_append_left _ (List.mem_append_left _ (List.mem_append_left _ (List.mem_append_left _ (List.mem_append_right _ (List.mem_append_right _ (List.mem_append_right _ (List.mem_append_right _ (List.mem_append_right _ (List.mem_append_right _ (List.mem_append_right _ (List.mem_append_right _ (List.mem_append_right _ (List.mem_append_right _ (List.mem_append_right _ (List.mem_append_right _ (List.mem_append_right _ (List.mem_append_right _ (List.mem_append_right _ (List.mem_append_right _ (List.mem_append_right _ (List.mem_append_right _ (List.mem_append_right _ (List.mem_append_right _ (List.mem_append_right _ (List.mem_append_left _ h)))))))))))))))))))))))))))))))))))
theorem in_U23 : ∀ w ∈ wU_23, w ∈ wU := fun _ h => (List.mem_append_left _ (List.mem_append_left _ (List.mem_append_left _ (List.mem_append_left _ (List.mem_append_left _ (List.mem_append_left _ (List.mem_append_left _ (List.mem_append_left _ (List.mem_append_left _ (List.mem_append_left _ (List.mem_append_left _ (List.mem_append_left _ (List.mem_append_left _ (List.mem_append_right _ (List.mem_append_right _ (List.mem_append_right _ (List.mem_append_right _ (List.mem_append_right _ (List.mem_append_right _ (List.mem_append_right _ (List.mem_append_right _ (List.mem_append_right _ (List.mem_append_right _ (List.mem_append_right _ (List.mem_append_right _ (List.mem_append_right _ (List.mem_append_right _ (List.mem_append_right _ (List.mem_append_right _ (List.mem_append_right _ (List.mem_append_right _ (List.mem_append_right _ (List.mem_append_right _ (List.mem_append_right _ (List.mem_append_right _ (List.mem_append_left _ h))))))))))))))))))))))))))))))))))))
theorem in_U24 : ∀ w ∈ wU_24, w ∈ wU := fun _ h => (List.mem_append_left _ (List.mem_append_left _ (List.mem_append_left _ (List.mem_append_left _ (List.mem_append_left _ (List.mem_append_left _ (List.mem_append_left _ (List.mem_append_left _ (List.mem_append_left _ (List.mem_append_left _ (List.mem_append_left _ (List.mem_append_left _ (List.mem_append_left _ (List.mem_append_right _ (List.mem_append_right _ (List.mem_append_right _ (List.mem_append_right _ (List.mem_append_right _ (List.mem_append_right _ (List.mem_append_right _ (List.mem_append_right _ (List.mem_append_right _ (List.mem_append_right _ (List.mem_append_right _ (List.mem_append_right _ (List.mem_append_right _ (List.mem_append_right _ (List.mem_append_right _ (List.mem_append_right _ (List.mem_append_right _ (List.mem_append_right _ (List.mem_append_right _ (List.mem_append_right _ (List.mem_append_right _ (List.mem_append_right _ (List.mem_append_right _ (List.mem_append_left _ h)))))))))))))))))))))))))))))))))))))
theorem in_U25 : ∀ w ∈ wU_25, w ∈ wU := fun _ h => (List.mem_append_left _ (List.mem_append_left _ (List.mem_append_left _ (List.mem_append_left _ (List.mem_append_left _ (List.mem_append_left _ (List.mem_append_left _ (List.mem_append_left _ (List.mem_append_left _ (List.mem_append_left _ (List.mem_append_left _ (List.mem_append_left _ (List.mem_append_left _ (List.mem_append_right _ (List.mem_append_right _ (List.mem_append_right _ (List.mem_append_right _ (List.mem_append_right _ (List.mem_append_right _ (List.mem_append_right _ (List.mem_append_right _ (List.mem_append_right _ (List.mem_append_right _ (List.mem_append_right _ (List.mem_append_right _ (List.mem_append_right _ (List.mem_append_right _ (List.mem_append_right _ (List.mem_append_right _ (List.mem_append_right _ (List.mem_append_right _ (List.mem_append_right _ (List.mem_append_right _ (List.mem_append_right _ (List.mem_append_right _ (List.mem_append_right _ (List.mem_append_right _ h)))))))))))))))))))))))))))))))))))))
theorem inlX0 : ∀ w ∈ wsX00, w ∈ wU := fun _ h => (List.mem_append_left _ (List.mem_append_left _ (List.mem_append_left _ (List.mem_append_left _ (List.mem_append_left _ (List.mem_append_left _ (List.mem_append_left _ (List.mem_append_left _ (List.mem_append_left _ (List.mem_append_left _ (List.mem_append_left _ (List.mem_append_left _ (List.mem_append_right _ h)))))))))))))
theorem inlX1 : ∀ w ∈ wsX10, w ∈ wU := fun _ h => (List.mem_append_left _ (List.mem_append_left _ (List.mem_append_left _ (List.mem_append_left _ (List.mem_append_left _ (List.mem_append_left _ (List.mem_append_left _ (List.mem_append_left _ (List.mem_append_left _ (List.mem_append_left _ (List.mem_append_left _ (List.mem_append_right _ h))))))))))))
theorem inlX2 : ∀ w ∈ wsX20, w ∈ wU := fun _ h => (List.mem_append_left _ (List.mem_append_left _ (List.mem_append_left _ (List.mem_append_left _ (List.mem_append_left _ (List.mem_append_left _ (List.mem_append_left _ (List.mem_append_left _ (List.mem_append_left _ (List.mem_append_left _ (List.mem_append_right _ h)))))))))))
theorem inlX3 : ∀ w ∈ wsX30, w ∈ wU := fun _ h => (List.mem_append_left _ (List.mem_append_left _ (List.mem_append_left _ (List.mem_append_left _ (List.mem_append_left _ (List.mem_append_left _ (List.mem_append_left _ (List.mem_append_left _ (List.mem_append_left _ (List.mem_append_right _ h))))))))))
theorem inlX4 : ∀ w ∈ wsX40, w ∈ wU := fun _ h => (List.mem_append_left _ (List.mem_append_left _ (List.mem_append_left _ (List.mem_append_left _ (List.mem_append_left _ (List.mem_append_left _ (List.mem_append_left _ (List.mem_append_left _ (List.mem_append_right _ h)))))))))
theorem inlX5 : ∀ w ∈ wsX50, w ∈ wU := fun _ h => (List.mem_append_left _ (List.mem_append_left _ (List.mem_append_left _ (List.mem_append_left _ (List.mem_append_left _ (List.mem_append_left _ (List.mem_append_left _ (List.mem_append_right _ h))))))))
theorem inlX6 : ∀ w ∈ wsX60, w ∈ wU := fun _ h => (List.mem_append_left _ (List.mem_append_left _ (List.mem_append_left _ (List.mem_append_left _ (List.mem_append_left _ (List.mem_append_left _ (List.mem_append_right _ h)))))))
theorem inlX7 : ∀ w ∈ wsX70, w ∈ wU := fun _ h => (List.mem_append_left _ (List.mem_append_left _ (List.mem_append_left _ (List.mem_append_left _ (List.mem_append_left _ (List.mem_append_right _ h))))))
theorem inlX8 : ∀ w ∈ wsX80, w ∈ wU := fun _ h => (List.mem_append_left _ (List.mem_append_left _ (List.mem_append_left _ (List.mem_append_left _ (List.mem_append_right _ h)))))
theorem inlX9 : ∀ w ∈ wsX90, w ∈ wU := fun _ h => (List.mem_append_left _ (List.mem_append_left _ (List.mem_append_left _ (List.mem_append_right _ h))))
theorem inlX10 : ∀ w ∈ wsX100, w ∈ wU := fun _ h => (List.mem_append_left _ (List.mem_append_left _ (List.mem_append_right _ h)))
theorem inlX11 : ∀ w ∈ wsX110, w ∈ wU := fun _ h => (List.mem_append_left _ (List.mem_append_right _ h))
theorem inlX12 : ∀ w ∈ wsX120, w ∈ wU := fun _ h => (List.mem_append_right _ h)
theorem mw_1_0 : Cond.classLink RL 7 RX11 ∈ wU := in_U1 _ (List.mem_of_getElem? (i := 0) rfl)
theorem mw_1_1 : Cond.instantiable RX11 15 ∈ wU := in_U1 _ (List.mem_of_getElem? (i := 1) rfl)
theorem mw_1_2 : Cond.initialized RX11 ∈ wU := in_U1 _ (List.mem_of_getElem? (i := 2) rfl)
theorem mw_1_3 : Cond.classLink RL 10 RX12 ∈ wU := in_U1 _ (List.mem_of_getElem? (i := 3) rfl)
theorem mw_1_4 : Cond.instantiable RX12 75 ∈ wU := in_U1 _ (List.mem_of_getElem? (i := 4) rfl)
theorem mw_1_5 : Cond.initialized RX12 ∈ wU := in_U1 _ (List.mem_of_getElem? (i := 5) rfl)
theorem mw_1_6 : Cond.methodLink RL 9 yX11_init ∈ wU := in_U1 _ (List.mem_of_getElem? (i := 6) rfl)
theorem mw_1_7 : Cond.instanceMethod yX11_init ∈ wU := in_U1 _ (List.mem_of_getElem? (i := 7) rfl)
theorem mw_1_8 : Cond.code yX11_init cX11_init 1 none ∈ wU := in_U1 _ (List.mem_of_getElem? (i := 8) rfl)
theorem mw_1_9 : Cond.methodLink RX11 1 objectInit ∈ wU := in_U1 _ (List.mem_of_getElem? (i := 9) rfl)
theorem mw_1_10 : Cond.instanceMethod objectInit ∈ wU := in_U1 _ (List.mem_of_getElem? (i := 10) rfl)
theorem mw_1_11 : Cond.code objectInit ⟨#[0xb1]⟩ 1 none ∈ wU := in_U1 _ (List.mem_of_getElem? (i := 11) rfl)
theorem mw_1_12 : Cond.classLink RX11 7 RX9 ∈ wU := in_U1 _ (List.mem_of_getElem? (i := 12) rfl)
theorem mw_1_13 : Cond.instantiable RX9 6 ∈ wU := in_U1 _ (List.mem_of_getElem? (i := 13) rfl)
theorem mw_1_14 : Cond.initialized RX9 ∈ wU := in_U1 _ (List.mem_of_getElem? (i := 14) rfl)
theorem mw_1_15 : Cond.fieldLink RX11 10 "HalfDrop" "text" "LHalfDrop$Text;" ∈ wU := in_U1 _ (List.mem_of_getElem? (i := 15) rfl)
theorem mw_1_16 : Cond.classLink RX11 16 RX4 ∈ wU := in_U1 _ (List.mem_of_getElem? (i := 16) rfl)
theorem mw_1_17 : Cond.instantiable RX4 3 ∈ wU := in_U1 _ (List.mem_of_getElem? (i := 17) rfl)
theorem mw_1_18 : Cond.initialized RX4 ∈ wU := in_U1 _ (List.mem_of_getElem? (i := 18) rfl)
theorem mw_1_19 : Cond.fieldLink RX11 21 "HalfDrop" "reader" "LHalfDrop$Reader;" ∈ wU := in_U1 _ (List.mem_of_getElem? (i := 19) rfl)
theorem mw_1_20 : Cond.classLink RX11 25 RX6 ∈ wU := in_U1 _ (List.mem_of_getElem? (i := 20) rfl)
theorem mw_1_21 : Cond.fieldLink RX11 27 "HalfDrop" "rooms" "[LHalfDrop$Room;" ∈ wU := in_U1 _ (List.mem_of_getElem? (i := 21) rfl)
theorem mw_1_22 : Cond.classLink RX11 31 RX3 ∈ wU := in_U1 _ (List.mem_of_getElem? (i := 22) rfl)
theorem mw_1_23 : Cond.fieldLink RX11 33 "HalfDrop" "papers" "[LHalfDrop$Paper;" ∈ wU := in_U1 _ (List.mem_of_getElem? (i := 23) rfl)
theorem mw_2_0 : Cond.classLink RX11 37 RX8 ∈ wU := in_U2 _ (List.mem_of_getElem? (i := 0) rfl)
theorem mw_2_1 : Cond.instantiable RX8 8 ∈ wU := in_U2 _ (List.mem_of_getElem? (i := 1) rfl)
theorem mw_2_2 : Cond.initialized RX8 ∈ wU := in_U2 _ (List.mem_of_getElem? (i := 2) rfl)
theorem mw_2_3 : Cond.fieldLink RX11 40 "HalfDrop" "now" "LHalfDrop$State;" ∈ wU := in_U2 _ (List.mem_of_getElem? (i := 3) rfl)
theorem mw_2_4 : Cond.fieldLink RX11 44 "HalfDrop" "images" "[LHalfDrop$State;" ∈ wU := in_U2 _ (List.mem_of_getElem? (i := 4) rfl)
theorem mw_2_5 : Cond.classLink RX11 48 RX2 ∈ wU := in_U2 _ (List.mem_of_getElem? (i := 5) rfl)
theorem mw_2_6 : Cond.instantiable RX2 16 ∈ wU := in_U2 _ (List.mem_of_getElem? (i := 6) rfl)
theorem mw_2_7 : Cond.initialized RX2 ∈ wU := in_U2 _ (List.mem_of_getElem? (i := 7) rfl)
theorem mw_2_8 : Cond.fieldLink RX11 51 "HalfDrop" "layout" "LHalfDrop$Layout;" ∈ wU := in_U2 _ (List.mem_of_getElem? (i := 8) rfl)
theorem mw_2_9 : Cond.classLink RX11 55 RX5 ∈ wU := in_U2 _ (List.mem_of_getElem? (i := 9) rfl)
theorem mw_2_10 : Cond.instantiable RX5 8 ∈ wU := in_U2 _ (List.mem_of_getElem? (i := 10) rfl)
theorem mw_2_11 : Cond.initialized RX5 ∈ wU := in_U2 _ (List.mem_of_getElem? (i := 11) rfl)
theorem mw_2_12 : Cond.fieldLink RX11 58 "HalfDrop" "cutRolls" "LHalfDrop$Rolls;" ∈ wU := in_U2 _ (List.mem_of_getElem? (i := 12) rfl)
theorem mw_2_13 : Cond.classLink RX11 62 RX1 ∈ wU := in_U2 _ (List.mem_of_getElem? (i := 13) rfl)
theorem mw_2_14 : Cond.instantiable RX1 9 ∈ wU := in_U2 _ (List.mem_of_getElem? (i := 14) rfl)
theorem mw_2_15 : Cond.initialized RX1 ∈ wU := in_U2 _ (List.mem_of_getElem? (i := 15) rfl)
theorem mw_2_16 : Cond.fieldLink RX11 65 "HalfDrop" "judge" "LHalfDrop$Judge;" ∈ wU := in_U2 _ (List.mem_of_getElem? (i := 16) rfl)
theorem mw_2_17 : Cond.classLink RX11 69 RX7 ∈ wU := in_U2 _ (List.mem_of_getElem? (i := 17) rfl)
theorem mw_2_18 : Cond.instantiable RX7 12 ∈ wU := in_U2 _ (List.mem_of_getElem? (i := 18) rfl)
theorem mw_2_19 : Cond.initialized RX7 ∈ wU := in_U2 _ (List.mem_of_getElem? (i := 19) rfl)
theorem mw_2_20 : Cond.fieldLink RX11 72 "HalfDrop" "sharing" "LHalfDrop$Sharing;" ∈ wU := in_U2 _ (List.mem_of_getElem? (i := 20) rfl)
theorem mw_2_21 : Cond.classLink RX11 76 RX0 ∈ wU := in_U2 _ (List.mem_of_getElem? (i := 21) rfl)
theorem mw_2_22 : Cond.instantiable RX0 7 ∈ wU := in_U2 _ (List.mem_of_getElem? (i := 22) rfl)
theorem mw_2_23 : Cond.initialized RX0 ∈ wU := in_U2 _ (List.mem_of_getElem? (i := 23) rfl)
theorem mw_3_0 : Cond.fieldLink RX11 79 "HalfDrop" "hangingDay" "LHalfDrop$Day;" ∈ wU := in_U3 _ (List.mem_of_getElem? (i := 0) rfl)
theorem mw_3_1 : Cond.instantiable RX6 12 ∈ wU := in_U3 _ (List.mem_of_getElem? (i := 1) rfl)
theorem mw_3_2 : Cond.initialized RX6 ∈ wU := in_U3 _ (List.mem_of_getElem? (i := 2) rfl)
theorem mw_3_3 : Cond.fieldLink RX11 84 "HalfDrop" "spareRoom" "LHalfDrop$Room;" ∈ wU := in_U3 _ (List.mem_of_getElem? (i := 3) rfl)
theorem mw_3_4 : Cond.fieldLink RX11 88 "HalfDrop" "roomCount" "I" ∈ wU := in_U3 _ (List.mem_of_getElem? (i := 4) rfl)
theorem mw_3_5 : Cond.fieldLink RX11 92 "HalfDrop" "paperCount" "I" ∈ wU := in_U3 _ (List.mem_of_getElem? (i := 5) rfl)
theorem mw_3_6 : Cond.fieldLink RX11 95 "HalfDrop" "trimNow" "I" ∈ wU := in_U3 _ (List.mem_of_getElem? (i := 6) rfl)
theorem mw_3_7 : Cond.methodLink RX11 9 yX9_init ∈ wU := in_U3 _ (List.mem_of_getElem? (i := 7) rfl)
theorem mw_3_8 : Cond.instanceMethod yX9_init ∈ wU := in_U3 _ (List.mem_of_getElem? (i := 8) rfl)
theorem mw_3_9 : Cond.code yX9_init cX9_init 1 none ∈ wU := in_U3 _ (List.mem_of_getElem? (i := 9) rfl)
theorem mw_3_10 : Cond.methodLink RX9 1 objectInit ∈ wU := in_U3 _ (List.mem_of_getElem? (i := 10) rfl)
theorem mw_3_11 : Cond.arrayClass .int ∈ wU := in_U3 _ (List.mem_of_getElem? (i := 11) rfl)
theorem mw_3_12 : Cond.fieldLink RX9 9 "HalfDrop$Text" "bytes" "[I" ∈ wU := in_U3 _ (List.mem_of_getElem? (i := 12) rfl)
theorem mw_3_13 : Cond.fieldLink RX9 13 "HalfDrop$Text" "kinds" "[I" ∈ wU := in_U3 _ (List.mem_of_getElem? (i := 13) rfl)
theorem mw_3_14 : Cond.fieldLink RX9 16 "HalfDrop$Text" "places" "[I" ∈ wU := in_U3 _ (List.mem_of_getElem? (i := 14) rfl)
theorem mw_3_15 : Cond.fieldLink RX9 19 "HalfDrop$Text" "values" "[I" ∈ wU := in_U3 _ (List.mem_of_getElem? (i := 15) rfl)
theorem mw_3_16 : Cond.methodLink RX11 18 yX4_init ∈ wU := in_U3 _ (List.mem_of_getElem? (i := 16) rfl)
theorem mw_3_17 : Cond.instanceMethod yX4_init ∈ wU := in_U3 _ (List.mem_of_getElem? (i := 17) rfl)
theorem mw_3_18 : Cond.code yX4_init cX4_init 2 none ∈ wU := in_U3 _ (List.mem_of_getElem? (i := 18) rfl)
theorem mw_3_19 : Cond.methodLink RX4 3 objectInit ∈ wU := in_U3 _ (List.mem_of_getElem? (i := 19) rfl)
theorem mw_3_20 : Cond.fieldLink RX4 9 "HalfDrop$Reader" "text" "LHalfDrop$Text;" ∈ wU := in_U3 _ (List.mem_of_getElem? (i := 20) rfl)
theorem mw_3_21 : Cond.methodLink RX11 39 yX8_init ∈ wU := in_U3 _ (List.mem_of_getElem? (i := 21) rfl)
theorem mw_3_22 : Cond.instanceMethod yX8_init ∈ wU := in_U3 _ (List.mem_of_getElem? (i := 22) rfl)
theorem mw_3_23 : Cond.code yX8_init cX8_init 2 none ∈ wU := in_U3 _ (List.mem_of_getElem? (i := 23) rfl)
theorem mw_4_0 : Cond.methodLink RX8 3 objectInit ∈ wU := in_U4 _ (List.mem_of_getElem? (i := 0) rfl)
theorem mw_4_1 : Cond.fieldLink RX8 9 "HalfDrop$State" "papers" "[I" ∈ wU := in_U4 _ (List.mem_of_getElem? (i := 1) rfl)
theorem mw_4_2 : Cond.fieldLink RX8 15 "HalfDrop$State" "starts" "[I" ∈ wU := in_U4 _ (List.mem_of_getElem? (i := 2) rfl)
theorem mw_4_3 : Cond.fieldLink RX8 18 "HalfDrop$State" "bases" "[I" ∈ wU := in_U4 _ (List.mem_of_getElem? (i := 3) rfl)
theorem mw_4_4 : Cond.fieldLink RX8 21 "HalfDrop$State" "hungs" "[I" ∈ wU := in_U4 _ (List.mem_of_getElem? (i := 4) rfl)
theorem mw_4_5 : Cond.fieldLink RX8 24 "HalfDrop$State" "endPapers" "[I" ∈ wU := in_U4 _ (List.mem_of_getElem? (i := 5) rfl)
theorem mw_4_6 : Cond.fieldLink RX8 27 "HalfDrop$State" "endLengths" "[I" ∈ wU := in_U4 _ (List.mem_of_getElem? (i := 6) rfl)
theorem mw_4_7 : Cond.fieldLink RX8 30 "HalfDrop$State" "endPhases" "[I" ∈ wU := in_U4 _ (List.mem_of_getElem? (i := 7) rfl)
theorem mw_4_8 : Cond.methodLink RX11 50 yX2_init ∈ wU := in_U4 _ (List.mem_of_getElem? (i := 8) rfl)
theorem mw_4_9 : Cond.instanceMethod yX2_init ∈ wU := in_U4 _ (List.mem_of_getElem? (i := 9) rfl)
theorem mw_4_10 : Cond.code yX2_init cX2_init 1 none ∈ wU := in_U4 _ (List.mem_of_getElem? (i := 10) rfl)
theorem mw_4_11 : Cond.methodLink RX2 5 objectInit ∈ wU := in_U4 _ (List.mem_of_getElem? (i := 11) rfl)
theorem mw_4_12 : Cond.fieldLink RX2 11 "HalfDrop$Layout" "talls" "[I" ∈ wU := in_U4 _ (List.mem_of_getElem? (i := 12) rfl)
theorem mw_4_13 : Cond.fieldLink RX2 15 "HalfDrop$Layout" "firsts" "[I" ∈ wU := in_U4 _ (List.mem_of_getElem? (i := 13) rfl)
theorem mw_4_14 : Cond.fieldLink RX2 18 "HalfDrop$Layout" "stripsOf" "[I" ∈ wU := in_U4 _ (List.mem_of_getElem? (i := 14) rfl)
theorem mw_4_15 : Cond.fieldLink RX2 21 "HalfDrop$Layout" "froms" "[I" ∈ wU := in_U4 _ (List.mem_of_getElem? (i := 15) rfl)
theorem mw_4_16 : Cond.fieldLink RX2 24 "HalfDrop$Layout" "tos" "[I" ∈ wU := in_U4 _ (List.mem_of_getElem? (i := 16) rfl)
theorem mw_4_17 : Cond.fieldLink RX2 27 "HalfDrop$Layout" "longs" "[I" ∈ wU := in_U4 _ (List.mem_of_getElem? (i := 17) rfl)
theorem mw_4_18 : Cond.fieldLink RX2 30 "HalfDrop$Layout" "phases" "[I" ∈ wU := in_U4 _ (List.mem_of_getElem? (i := 18) rfl)
theorem mw_4_19 : Cond.fieldLink RX2 33 "HalfDrop$Layout" "rollsOf" "[I" ∈ wU := in_U4 _ (List.mem_of_getElem? (i := 19) rfl)
theorem mw_4_20 : Cond.fieldLink RX2 36 "HalfDrop$Layout" "placesOf" "[I" ∈ wU := in_U4 _ (List.mem_of_getElem? (i := 20) rfl)
theorem mw_4_21 : Cond.methodLink RX11 57 yX5_init ∈ wU := in_U4 _ (List.mem_of_getElem? (i := 21) rfl)
theorem mw_4_22 : Cond.instanceMethod yX5_init ∈ wU := in_U4 _ (List.mem_of_getElem? (i := 22) rfl)
theorem mw_4_23 : Cond.code yX5_init cX5_init 1 none ∈ wU := in_U4 _ (List.mem_of_getElem? (i := 23) rfl)
theorem mw_5_0 : Cond.methodLink RX5 5 objectInit ∈ wU := in_U5 _ (List.mem_of_getElem? (i := 0) rfl)
theorem mw_5_1 : Cond.fieldLink RX5 13 "HalfDrop$Rolls" "used" "[I" ∈ wU := in_U5 _ (List.mem_of_getElem? (i := 1) rfl)
theorem mw_5_2 : Cond.fieldLink RX5 17 "HalfDrop$Rolls" "leastOf" "[I" ∈ wU := in_U5 _ (List.mem_of_getElem? (i := 2) rfl)
theorem mw_5_3 : Cond.fieldLink RX5 20 "HalfDrop$Rolls" "longs" "[I" ∈ wU := in_U5 _ (List.mem_of_getElem? (i := 3) rfl)
theorem mw_5_4 : Cond.fieldLink RX5 23 "HalfDrop$Rolls" "phases" "[I" ∈ wU := in_U5 _ (List.mem_of_getElem? (i := 4) rfl)
theorem mw_5_5 : Cond.methodLink RX11 64 yX1_init ∈ wU := in_U5 _ (List.mem_of_getElem? (i := 5) rfl)
theorem mw_5_6 : Cond.instanceMethod yX1_init ∈ wU := in_U5 _ (List.mem_of_getElem? (i := 6) rfl)
theorem mw_5_7 : Cond.code yX1_init cX1_init 1 none ∈ wU := in_U5 _ (List.mem_of_getElem? (i := 7) rfl)
theorem mw_5_8 : Cond.methodLink RX1 5 objectInit ∈ wU := in_U5 _ (List.mem_of_getElem? (i := 8) rfl)
theorem mw_5_9 : Cond.fieldLink RX1 11 "HalfDrop$Judge" "wholeWith" "[I" ∈ wU := in_U5 _ (List.mem_of_getElem? (i := 9) rfl)
theorem mw_5_10 : Cond.fieldLink RX1 17 "HalfDrop$Judge" "baseFor" "[I" ∈ wU := in_U5 _ (List.mem_of_getElem? (i := 10) rfl)
theorem mw_5_11 : Cond.methodLink RX11 71 yX7_init ∈ wU := in_U5 _ (List.mem_of_getElem? (i := 11) rfl)
theorem mw_5_12 : Cond.instanceMethod yX7_init ∈ wU := in_U5 _ (List.mem_of_getElem? (i := 12) rfl)
theorem mw_5_13 : Cond.code yX7_init cX7_init 1 none ∈ wU := in_U5 _ (List.mem_of_getElem? (i := 13) rfl)
theorem mw_5_14 : Cond.methodLink RX7 3 objectInit ∈ wU := in_U5 _ (List.mem_of_getElem? (i := 14) rfl)
theorem mw_5_15 : Cond.fieldLink RX7 11 "HalfDrop$Sharing" "papers" "[I" ∈ wU := in_U5 _ (List.mem_of_getElem? (i := 15) rfl)
theorem mw_5_16 : Cond.fieldLink RX7 15 "HalfDrop$Sharing" "sizes" "[I" ∈ wU := in_U5 _ (List.mem_of_getElem? (i := 16) rfl)
theorem mw_5_17 : Cond.fieldLink RX7 20 "HalfDrop$Sharing" "needs" "[I" ∈ wU := in_U5 _ (List.mem_of_getElem? (i := 17) rfl)
theorem mw_5_18 : Cond.arrayClass .boolean ∈ wU := in_U5 _ (List.mem_of_getElem? (i := 18) rfl)
theorem mw_5_19 : Cond.fieldLink RX7 23 "HalfDrop$Sharing" "hidden" "[Z" ∈ wU := in_U5 _ (List.mem_of_getElem? (i := 19) rfl)
theorem mw_5_20 : Cond.fieldLink RX7 27 "HalfDrop$Sharing" "given" "[I" ∈ wU := in_U5 _ (List.mem_of_getElem? (i := 20) rfl)
theorem mw_5_21 : Cond.fieldLink RX7 30 "HalfDrop$Sharing" "chosen" "[I" ∈ wU := in_U5 _ (List.mem_of_getElem? (i := 21) rfl)
theorem mw_5_22 : Cond.fieldLink RX7 33 "HalfDrop$Sharing" "picked" "[I" ∈ wU := in_U5 _ (List.mem_of_getElem? (i := 22) rfl)
theorem mw_5_23 : Cond.methodLink RX11 78 yX0_init ∈ wU := in_U5 _ (List.mem_of_getElem? (i := 23) rfl)
theorem mw_6_0 : Cond.instanceMethod yX0_init ∈ wU := in_U6 _ (List.mem_of_getElem? (i := 0) rfl)
theorem mw_6_1 : Cond.code yX0_init cX0_init 1 none ∈ wU := in_U6 _ (List.mem_of_getElem? (i := 1) rfl)
theorem mw_6_2 : Cond.methodLink RX0 1 objectInit ∈ wU := in_U6 _ (List.mem_of_getElem? (i := 2) rfl)
theorem mw_6_3 : Cond.fieldLink RX0 9 "HalfDrop$Day" "hangerFree" "[I" ∈ wU := in_U6 _ (List.mem_of_getElem? (i := 3) rfl)
theorem mw_6_4 : Cond.methodLink RX11 83 yX6_init ∈ wU := in_U6 _ (List.mem_of_getElem? (i := 4) rfl)
theorem mw_6_5 : Cond.instanceMethod yX6_init ∈ wU := in_U6 _ (List.mem_of_getElem? (i := 5) rfl)
theorem mw_6_6 : Cond.code yX6_init cX6_init 1 none ∈ wU := in_U6 _ (List.mem_of_getElem? (i := 6) rfl)
theorem mw_6_7 : Cond.methodLink RX6 3 objectInit ∈ wU := in_U6 _ (List.mem_of_getElem? (i := 7) rfl)
theorem mw_6_8 : Cond.classLink RX6 9 RX10 ∈ wU := in_U6 _ (List.mem_of_getElem? (i := 8) rfl)
theorem mw_6_9 : Cond.instantiable RX10 8 ∈ wU := in_U6 _ (List.mem_of_getElem? (i := 9) rfl)
theorem mw_6_10 : Cond.initialized RX10 ∈ wU := in_U6 _ (List.mem_of_getElem? (i := 10) rfl)
theorem mw_6_11 : Cond.fieldLink RX6 12 "HalfDrop$Room" "walls" "LHalfDrop$Walls;" ∈ wU := in_U6 _ (List.mem_of_getElem? (i := 11) rfl)
theorem mw_6_12 : Cond.fieldLink RX6 18 "HalfDrop$Room" "doors" "[Z" ∈ wU := in_U6 _ (List.mem_of_getElem? (i := 12) rfl)
theorem mw_6_13 : Cond.fieldLink RX6 22 "HalfDrop$Room" "openingWalls" "[I" ∈ wU := in_U6 _ (List.mem_of_getElem? (i := 13) rfl)
theorem mw_6_14 : Cond.fieldLink RX6 26 "HalfDrop$Room" "froms" "[I" ∈ wU := in_U6 _ (List.mem_of_getElem? (i := 14) rfl)
theorem mw_6_15 : Cond.fieldLink RX6 29 "HalfDrop$Room" "tos" "[I" ∈ wU := in_U6 _ (List.mem_of_getElem? (i := 15) rfl)
theorem mw_6_16 : Cond.fieldLink RX6 32 "HalfDrop$Room" "lowers" "[I" ∈ wU := in_U6 _ (List.mem_of_getElem? (i := 16) rfl)
theorem mw_6_17 : Cond.fieldLink RX6 35 "HalfDrop$Room" "uppers" "[I" ∈ wU := in_U6 _ (List.mem_of_getElem? (i := 17) rfl)
theorem mw_6_18 : Cond.fieldLink RX6 38 "HalfDrop$Room" "standWalls" "[I" ∈ wU := in_U6 _ (List.mem_of_getElem? (i := 18) rfl)
theorem mw_6_19 : Cond.fieldLink RX6 41 "HalfDrop$Room" "standXs" "[I" ∈ wU := in_U6 _ (List.mem_of_getElem? (i := 19) rfl)
theorem mw_6_20 : Cond.fieldLink RX6 44 "HalfDrop$Room" "standYs" "[I" ∈ wU := in_U6 _ (List.mem_of_getElem? (i := 20) rfl)
theorem mw_6_21 : Cond.methodLink RX6 11 yX10_init ∈ wU := in_U6 _ (List.mem_of_getElem? (i := 21) rfl)
theorem mw_6_22 : Cond.instanceMethod yX10_init ∈ wU := in_U6 _ (List.mem_of_getElem? (i := 22) rfl)
theorem mw_6_23 : Cond.code yX10_init cX10_init 1 none ∈ wU := in_U6 _ (List.mem_of_getElem? (i := 23) rfl)
theorem mw_7_0 : Cond.methodLink RX10 1 objectInit ∈ wU := in_U7 _ (List.mem_of_getElem? (i := 0) rfl)
theorem mw_7_1 : Cond.fieldLink RX10 9 "HalfDrop$Walls" "begins" "[I" ∈ wU := in_U7 _ (List.mem_of_getElem? (i := 1) rfl)
theorem mw_7_2 : Cond.fieldLink RX10 13 "HalfDrop$Walls" "lengths" "[I" ∈ wU := in_U7 _ (List.mem_of_getElem? (i := 2) rfl)
theorem mw_7_3 : Cond.fieldLink RX10 16 "HalfDrop$Walls" "lefts" "[I" ∈ wU := in_U7 _ (List.mem_of_getElem? (i := 3) rfl)
theorem mw_7_4 : Cond.fieldLink RX10 19 "HalfDrop$Walls" "rights" "[I" ∈ wU := in_U7 _ (List.mem_of_getElem? (i := 4) rfl)
theorem mw_7_5 : Cond.fieldLink RX10 22 "HalfDrop$Walls" "leans" "[I" ∈ wU := in_U7 _ (List.mem_of_getElem? (i := 5) rfl)
theorem mw_7_6 : Cond.fieldLink RX10 25 "HalfDrop$Walls" "leaning" "[Z" ∈ wU := in_U7 _ (List.mem_of_getElem? (i := 6) rfl)
theorem mw_7_7 : Cond.methodLink RL 12 yX12_init ∈ wU := in_U7 _ (List.mem_of_getElem? (i := 7) rfl)
theorem mw_7_8 : Cond.instanceMethod yX12_init ∈ wU := in_U7 _ (List.mem_of_getElem? (i := 8) rfl)
theorem mw_7_9 : Cond.code yX12_init cX12_init 1 none ∈ wU := in_U7 _ (List.mem_of_getElem? (i := 9) rfl)
theorem mw_7_10 : Cond.methodLink RX12 1 objectInit ∈ wU := in_U7 _ (List.mem_of_getElem? (i := 10) rfl)
theorem mw_7_11 : Cond.classLink RX12 9 "[[I" ∈ wU := in_U7 _ (List.mem_of_getElem? (i := 11) rfl)
theorem mw_7_12 : Cond.fieldLink RX12 11 "HalfDropModel" "length" "[[I" ∈ wU := in_U7 _ (List.mem_of_getElem? (i := 12) rfl)
theorem mw_7_13 : Cond.fieldLink RX12 14 "HalfDropModel" "high" "[[I" ∈ wU := in_U7 _ (List.mem_of_getElem? (i := 13) rfl)
theorem mw_7_14 : Cond.fieldLink RX12 17 "HalfDropModel" "highTo" "[[I" ∈ wU := in_U7 _ (List.mem_of_getElem? (i := 14) rfl)
theorem mw_7_15 : Cond.fieldLink RX12 20 "HalfDropModel" "lean" "[[I" ∈ wU := in_U7 _ (List.mem_of_getElem? (i := 15) rfl)
theorem mw_7_16 : Cond.fieldLink RX12 23 "HalfDropModel" "openWall" "[[I" ∈ wU := in_U7 _ (List.mem_of_getElem? (i := 16) rfl)
theorem mw_7_17 : Cond.fieldLink RX12 26 "HalfDropModel" "openFrom" "[[I" ∈ wU := in_U7 _ (List.mem_of_getElem? (i := 17) rfl)
theorem mw_7_18 : Cond.fieldLink RX12 29 "HalfDropModel" "openTo" "[[I" ∈ wU := in_U7 _ (List.mem_of_getElem? (i := 18) rfl)
theorem mw_7_19 : Cond.fieldLink RX12 32 "HalfDropModel" "openLow" "[[I" ∈ wU := in_U7 _ (List.mem_of_getElem? (i := 19) rfl)
theorem mw_7_20 : Cond.fieldLink RX12 35 "HalfDropModel" "openHigh" "[[I" ∈ wU := in_U7 _ (List.mem_of_getElem? (i := 20) rfl)
theorem mw_7_21 : Cond.fieldLink RX12 38 "HalfDropModel" "isDoor" "[[I" ∈ wU := in_U7 _ (List.mem_of_getElem? (i := 21) rfl)
theorem mw_7_22 : Cond.fieldLink RX12 41 "HalfDropModel" "standWall" "[[I" ∈ wU := in_U7 _ (List.mem_of_getElem? (i := 22) rfl)
theorem mw_7_23 : Cond.fieldLink RX12 44 "HalfDropModel" "standX" "[[I" ∈ wU := in_U7 _ (List.mem_of_getElem? (i := 23) rfl)
theorem mw_8_0 : Cond.fieldLink RX12 47 "HalfDropModel" "standY" "[[I" ∈ wU := in_U8 _ (List.mem_of_getElem? (i := 0) rfl)
theorem mw_8_1 : Cond.fieldLink RX12 50 "HalfDropModel" "walls" "[I" ∈ wU := in_U8 _ (List.mem_of_getElem? (i := 1) rfl)
theorem mw_8_2 : Cond.fieldLink RX12 54 "HalfDropModel" "openings" "[I" ∈ wU := in_U8 _ (List.mem_of_getElem? (i := 2) rfl)
theorem mw_8_3 : Cond.fieldLink RX12 57 "HalfDropModel" "stands" "[I" ∈ wU := in_U8 _ (List.mem_of_getElem? (i := 3) rfl)
theorem mw_8_4 : Cond.fieldLink RX12 60 "HalfDropModel" "leans" "[I" ∈ wU := in_U8 _ (List.mem_of_getElem? (i := 4) rfl)
theorem mw_8_5 : Cond.fieldLink RX12 63 "HalfDropModel" "round" "[I" ∈ wU := in_U8 _ (List.mem_of_getElem? (i := 5) rfl)
theorem mw_8_6 : Cond.arrayClass .byte ∈ wU := in_U8 _ (List.mem_of_getElem? (i := 6) rfl)
theorem mw_8_7 : Cond.fieldLink RX12 66 "HalfDropModel" "text" "[B" ∈ wU := in_U8 _ (List.mem_of_getElem? (i := 7) rfl)
theorem mw_8_8 : Cond.classLink RX12 70 RJ0 ∈ wU := in_U8 _ (List.mem_of_getElem? (i := 8) rfl)
theorem mw_8_9 : Cond.fieldLink RX12 81 "HalfDropModel" "words" "[Ljava/lang/String;" ∈ wU := in_U8 _ (List.mem_of_getElem? (i := 9) rfl)
theorem mw_8_10 : Cond.fieldLink RX12 85 "HalfDropModel" "width" "[I" ∈ wU := in_U8 _ (List.mem_of_getElem? (i := 10) rfl)
theorem mw_8_11 : Cond.fieldLink RX12 88 "HalfDropModel" "repeat" "[I" ∈ wU := in_U8 _ (List.mem_of_getElem? (i := 11) rfl)
theorem mw_8_12 : Cond.fieldLink RX12 91 "HalfDropModel" "drop" "[I" ∈ wU := in_U8 _ (List.mem_of_getElem? (i := 12) rfl)
theorem mw_8_13 : Cond.fieldLink RX12 94 "HalfDropModel" "roll" "[I" ∈ wU := in_U8 _ (List.mem_of_getElem? (i := 13) rfl)
theorem mw_8_14 : Cond.fieldLink RX12 97 "HalfDropModel" "figureFrom" "[I" ∈ wU := in_U8 _ (List.mem_of_getElem? (i := 14) rfl)
theorem mw_8_15 : Cond.fieldLink RX12 100 "HalfDropModel" "figureHigh" "[I" ∈ wU := in_U8 _ (List.mem_of_getElem? (i := 15) rfl)
theorem mw_8_16 : Cond.fieldLink RX12 103 "HalfDropModel" "trim" "I" ∈ wU := in_U8 _ (List.mem_of_getElem? (i := 16) rfl)
theorem mw_8_17 : Cond.fieldLink RX12 107 "HalfDropModel" "paperOf" "[I" ∈ wU := in_U8 _ (List.mem_of_getElem? (i := 17) rfl)
theorem mw_8_18 : Cond.fieldLink RX12 110 "HalfDropModel" "startOf" "[I" ∈ wU := in_U8 _ (List.mem_of_getElem? (i := 18) rfl)
theorem mw_8_19 : Cond.fieldLink RX12 113 "HalfDropModel" "baseOf" "[I" ∈ wU := in_U8 _ (List.mem_of_getElem? (i := 19) rfl)
theorem mw_8_20 : Cond.fieldLink RX12 116 "HalfDropModel" "hung" "[I" ∈ wU := in_U8 _ (List.mem_of_getElem? (i := 20) rfl)
theorem mw_8_21 : Cond.fieldLink RX12 119 "HalfDropModel" "stripAt" "[I" ∈ wU := in_U8 _ (List.mem_of_getElem? (i := 21) rfl)
theorem mw_8_22 : Cond.fieldLink RX12 122 "HalfDropModel" "stripTall" "[I" ∈ wU := in_U8 _ (List.mem_of_getElem? (i := 22) rfl)
theorem mw_8_23 : Cond.fieldLink RX12 125 "HalfDropModel" "stripFirst" "[I" ∈ wU := in_U8 _ (List.mem_of_getElem? (i := 23) rfl)
theorem mw_9_0 : Cond.fieldLink RX12 128 "HalfDropModel" "stripMany" "[I" ∈ wU := in_U9 _ (List.mem_of_getElem? (i := 0) rfl)
theorem mw_9_1 : Cond.fieldLink RX12 131 "HalfDropModel" "pieceStrip" "[I" ∈ wU := in_U9 _ (List.mem_of_getElem? (i := 1) rfl)
theorem mw_9_2 : Cond.fieldLink RX12 134 "HalfDropModel" "pieceFrom" "[I" ∈ wU := in_U9 _ (List.mem_of_getElem? (i := 2) rfl)
theorem mw_9_3 : Cond.fieldLink RX12 137 "HalfDropModel" "pieceTo" "[I" ∈ wU := in_U9 _ (List.mem_of_getElem? (i := 3) rfl)
theorem mw_9_4 : Cond.fieldLink RX12 140 "HalfDropModel" "pieceRoll" "[I" ∈ wU := in_U9 _ (List.mem_of_getElem? (i := 4) rfl)
theorem mw_9_5 : Cond.fieldLink RX12 143 "HalfDropModel" "pieceAt" "[I" ∈ wU := in_U9 _ (List.mem_of_getElem? (i := 5) rfl)
theorem mw_9_6 : Cond.fieldLink RX12 146 "HalfDropModel" "used" "[I" ∈ wU := in_U9 _ (List.mem_of_getElem? (i := 6) rfl)
theorem mw_9_7 : Cond.fieldLink RX12 149 "HalfDropModel" "heap" "[I" ∈ wU := in_U9 _ (List.mem_of_getElem? (i := 7) rfl)
theorem mw_9_8 : Cond.fieldLink RX12 152 "HalfDropModel" "runs" "[I" ∈ wU := in_U9 _ (List.mem_of_getElem? (i := 8) rfl)
theorem mw_9_9 : Cond.fieldLink RX12 155 "HalfDropModel" "batchPaper" "[I" ∈ wU := in_U9 _ (List.mem_of_getElem? (i := 9) rfl)
theorem mw_9_10 : Cond.fieldLink RX12 158 "HalfDropModel" "batchRolls" "[I" ∈ wU := in_U9 _ (List.mem_of_getElem? (i := 10) rfl)
theorem mw_9_11 : Cond.fieldLink RX12 161 "HalfDropModel" "ownRolls" "[I" ∈ wU := in_U9 _ (List.mem_of_getElem? (i := 11) rfl)
theorem mw_9_12 : Cond.fieldLink RX12 164 "HalfDropModel" "from" "[I" ∈ wU := in_U9 _ (List.mem_of_getElem? (i := 12) rfl)
theorem mw_9_13 : Cond.fieldLink RX12 167 "HalfDropModel" "bestFrom" "[I" ∈ wU := in_U9 _ (List.mem_of_getElem? (i := 13) rfl)
theorem mw_9_14 : Cond.fieldLink RX12 170 "HalfDropModel" "given" "[I" ∈ wU := in_U9 _ (List.mem_of_getElem? (i := 14) rfl)
theorem mw_9_15 : Cond.fieldLink RX12 173 "HalfDropModel" "endPaper" "[I" ∈ wU := in_U9 _ (List.mem_of_getElem? (i := 15) rfl)
theorem mw_9_16 : Cond.fieldLink RX12 176 "HalfDropModel" "endLength" "[I" ∈ wU := in_U9 _ (List.mem_of_getElem? (i := 16) rfl)
theorem mw_9_17 : Cond.fieldLink RX12 179 "HalfDropModel" "endPhase" "[I" ∈ wU := in_U9 _ (List.mem_of_getElem? (i := 17) rfl)
theorem mw_9_18 : Cond.fieldLink RX12 182 "HalfDropModel" "keptRooms" "[[I" ∈ wU := in_U9 _ (List.mem_of_getElem? (i := 18) rfl)
theorem mw_9_19 : Cond.fieldLink RX12 185 "HalfDropModel" "keptEnds" "[[I" ∈ wU := in_U9 _ (List.mem_of_getElem? (i := 19) rfl)
theorem mw_9_20 : Cond.fieldLink RX12 188 "HalfDropModel" "keptMany" "[I" ∈ wU := in_U9 _ (List.mem_of_getElem? (i := 20) rfl)
theorem mw_9_21 : Cond.fieldLink RX12 191 "HalfDropModel" "keptRoomMany" "[I" ∈ wU := in_U9 _ (List.mem_of_getElem? (i := 21) rfl)
theorem mw_9_22 : Cond.fieldLink RX12 194 "HalfDropModel" "hasImage" "[Z" ∈ wU := in_U9 _ (List.mem_of_getElem? (i := 22) rfl)
theorem mw_9_23 : Cond.methodLink RL 13 yX11_feed ∈ wU := in_U9 _ (List.mem_of_getElem? (i := 23) rfl)
theorem mw_10_0 : Cond.instanceMethod yX11_feed ∈ wU := in_U10 _ (List.mem_of_getElem? (i := 0) rfl)
theorem mw_10_1 : Cond.selects RX11 yX11_feed yX11_feed ∈ wU := in_U10 _ (List.mem_of_getElem? (i := 1) rfl)
theorem mw_10_2 : Cond.code yX11_feed cX11_feed 6 (some .int) ∈ wU := in_U10 _ (List.mem_of_getElem? (i := 2) rfl)
theorem mw_10_3 : Cond.fieldLink RX11 106 "HalfDrop$Text" "size" "I" ∈ wU := in_U10 _ (List.mem_of_getElem? (i := 3) rfl)
theorem mw_10_4 : Cond.methodLink RX11 98 yX9_hasSpaceFor ∈ wU := in_U10 _ (List.mem_of_getElem? (i := 4) rfl)
theorem mw_10_5 : Cond.instanceMethod yX9_hasSpaceFor ∈ wU := in_U10 _ (List.mem_of_getElem? (i := 5) rfl)
theorem mw_10_6 : Cond.selects RX9 yX9_hasSpaceFor yX9_hasSpaceFor ∈ wU := in_U10 _ (List.mem_of_getElem? (i := 6) rfl)
theorem mw_10_7 : Cond.code yX9_hasSpaceFor cX9_hasSpaceFor 2 (some .boolean) ∈ wU := in_U10 _ (List.mem_of_getElem? (i := 7) rfl)
theorem mw_10_8 : Cond.fieldLink RX9 22 "HalfDrop$Text" "size" "I" ∈ wU := in_U10 _ (List.mem_of_getElem? (i := 8) rfl)
theorem mw_10_9 : Cond.methodLink RX11 102 yX9_add ∈ wU := in_U10 _ (List.mem_of_getElem? (i := 9) rfl)
theorem mw_10_10 : Cond.instanceMethod yX9_add ∈ wU := in_U10 _ (List.mem_of_getElem? (i := 10) rfl)
theorem mw_10_11 : Cond.selects RX9 yX9_add yX9_add ∈ wU := in_U10 _ (List.mem_of_getElem? (i := 11) rfl)
theorem mw_10_12 : Cond.code yX9_add cX9_add 3 none ∈ wU := in_U10 _ (List.mem_of_getElem? (i := 12) rfl)
theorem mw_10_13 : Cond.methodLink RX9 26 yX9_hasSpaceFor ∈ wU := in_U10 _ (List.mem_of_getElem? (i := 13) rfl)
theorem mw_10_14 : Cond.methodLink RL 17 yX12_feed ∈ wU := in_U10 _ (List.mem_of_getElem? (i := 14) rfl)
theorem mw_10_15 : Cond.instanceMethod yX12_feed ∈ wU := in_U10 _ (List.mem_of_getElem? (i := 15) rfl)
theorem mw_10_16 : Cond.selects RX12 yX12_feed yX12_feed ∈ wU := in_U10 _ (List.mem_of_getElem? (i := 16) rfl)
theorem mw_10_17 : Cond.code yX12_feed cX12_feed 6 (some .int) ∈ wU := in_U10 _ (List.mem_of_getElem? (i := 17) rfl)
theorem mw_10_18 : Cond.fieldLink RX12 198 "HalfDropModel" "textMany" "I" ∈ wU := in_U10 _ (List.mem_of_getElem? (i := 18) rfl)
theorem mw_10_19 : Cond.methodLink RX12 201 yX12_feeds ∈ wU := in_U10 _ (List.mem_of_getElem? (i := 19) rfl)
theorem mw_10_20 : Cond.instanceMethod yX12_feeds ∈ wU := in_U10 _ (List.mem_of_getElem? (i := 20) rfl)
theorem mw_10_21 : Cond.selects RX12 yX12_feeds yX12_feeds ∈ wU := in_U10 _ (List.mem_of_getElem? (i := 21) rfl)
theorem mw_10_22 : Cond.code yX12_feeds cX12_feeds 3 none ∈ wU := in_U10 _ (List.mem_of_getElem? (i := 22) rfl)
theorem mw_10_23 : Cond.methodLink RL 18 yX11_end ∈ wU := in_U10 _ (List.mem_of_getElem? (i := 23) rfl)
theorem mw_11_0 : Cond.instanceMethod yX11_end ∈ wU := in_U11 _ (List.mem_of_getElem? (i := 0) rfl)
theorem mw_11_1 : Cond.selects RX11 yX11_end yX11_end ∈ wU := in_U11 _ (List.mem_of_getElem? (i := 1) rfl)
theorem mw_11_2 : Cond.code yX11_end cX11_end 2 (some .boolean) ∈ wU := in_U11 _ (List.mem_of_getElem? (i := 2) rfl)
theorem mw_11_3 : Cond.methodLink RX11 109 yX9_shorten ∈ wU := in_U11 _ (List.mem_of_getElem? (i := 3) rfl)
theorem mw_11_4 : Cond.instanceMethod yX9_shorten ∈ wU := in_U11 _ (List.mem_of_getElem? (i := 4) rfl)
theorem mw_11_5 : Cond.selects RX9 yX9_shorten yX9_shorten ∈ wU := in_U11 _ (List.mem_of_getElem? (i := 5) rfl)
theorem mw_11_6 : Cond.code yX9_shorten cX9_shorten 2 (some .boolean) ∈ wU := in_U11 _ (List.mem_of_getElem? (i := 6) rfl)
theorem mw_11_7 : Cond.static yX11_isFrom ∈ wU := in_U11 _ (List.mem_of_getElem? (i := 7) rfl)
theorem mw_11_8 : Cond.code yX11_isFrom cX11_isFrom 3 (some .boolean) ∈ wU := in_U11 _ (List.mem_of_getElem? (i := 8) rfl)
theorem mw_11_9 : Cond.methodLink RL 22 yX12_end ∈ wU := in_U11 _ (List.mem_of_getElem? (i := 9) rfl)
theorem mw_11_10 : Cond.instanceMethod yX12_end ∈ wU := in_U11 _ (List.mem_of_getElem? (i := 10) rfl)
theorem mw_11_11 : Cond.selects RX12 yX12_end yX12_end ∈ wU := in_U11 _ (List.mem_of_getElem? (i := 11) rfl)
theorem mw_11_12 : Cond.code yX12_end cX12_end 2 (some .boolean) ∈ wU := in_U11 _ (List.mem_of_getElem? (i := 12) rfl)
theorem mw_11_13 : Cond.methodLink RX12 205 yX12_in ∈ wU := in_U11 _ (List.mem_of_getElem? (i := 13) rfl)
theorem mw_11_14 : Cond.static yX12_in ∈ wU := in_U11 _ (List.mem_of_getElem? (i := 14) rfl)
theorem mw_11_15 : Cond.code yX12_in cX12_in 6 (some .boolean) ∈ wU := in_U11 _ (List.mem_of_getElem? (i := 15) rfl)
theorem mw_11_16 : Cond.methodLink RL 23 yX11_fault ∈ wU := in_U11 _ (List.mem_of_getElem? (i := 16) rfl)
theorem mw_11_17 : Cond.instanceMethod yX11_fault ∈ wU := in_U11 _ (List.mem_of_getElem? (i := 17) rfl)
theorem mw_11_18 : Cond.selects RX11 yX11_fault yX11_fault ∈ wU := in_U11 _ (List.mem_of_getElem? (i := 18) rfl)
theorem mw_11_19 : Cond.code yX11_fault cX11_fault 1 (some .int) ∈ wU := in_U11 _ (List.mem_of_getElem? (i := 19) rfl)
theorem mw_11_20 : Cond.methodLink RX11 112 yX4_read ∈ wU := in_U11 _ (List.mem_of_getElem? (i := 20) rfl)
theorem mw_11_21 : Cond.instanceMethod yX4_read ∈ wU := in_U11 _ (List.mem_of_getElem? (i := 21) rfl)
theorem mw_11_22 : Cond.selects RX4 yX4_read yX4_read ∈ wU := in_U11 _ (List.mem_of_getElem? (i := 22) rfl)
theorem mw_11_23 : Cond.code yX4_read cX4_read 3 (some .int) ∈ wU := in_U11 _ (List.mem_of_getElem? (i := 23) rfl)
theorem mw_12_0 : Cond.fieldLink RX4 20 "HalfDrop$Reader" "token" "I" ∈ wU := in_U12 _ (List.mem_of_getElem? (i := 0) rfl)
theorem mw_12_1 : Cond.fieldLink RX4 24 "HalfDrop$Reader" "room" "LHalfDrop$Room;" ∈ wU := in_U12 _ (List.mem_of_getElem? (i := 1) rfl)
theorem mw_12_2 : Cond.fieldLink RX4 45 "HalfDrop$Room" "walls" "LHalfDrop$Walls;" ∈ wU := in_U12 _ (List.mem_of_getElem? (i := 2) rfl)
theorem mw_12_3 : Cond.fieldLink RX4 49 "HalfDrop$Walls" "number" "I" ∈ wU := in_U12 _ (List.mem_of_getElem? (i := 3) rfl)
theorem mw_12_4 : Cond.fieldLink RX4 54 "HalfDrop$Text" "size" "I" ∈ wU := in_U12 _ (List.mem_of_getElem? (i := 4) rfl)
theorem mw_12_5 : Cond.methodLink RX4 15 yX9_split ∈ wU := in_U12 _ (List.mem_of_getElem? (i := 5) rfl)
theorem mw_12_6 : Cond.instanceMethod yX9_split ∈ wU := in_U12 _ (List.mem_of_getElem? (i := 6) rfl)
theorem mw_12_7 : Cond.selects RX9 yX9_split yX9_split ∈ wU := in_U12 _ (List.mem_of_getElem? (i := 7) rfl)
theorem mw_12_8 : Cond.code yX9_split cX9_split 3 none ∈ wU := in_U12 _ (List.mem_of_getElem? (i := 8) rfl)
theorem mw_12_9 : Cond.fieldLink RX9 36 "HalfDrop$Text" "tokens" "I" ∈ wU := in_U12 _ (List.mem_of_getElem? (i := 9) rfl)
theorem mw_15_3 : Cond.methodLink RX9 47 yX9_addToken ∈ wU := in_U12 _ (List.mem_of_getElem? (i := 10) rfl)
theorem mw_15_4 : Cond.instanceMethod yX9_addToken ∈ wU := in_U12 _ (List.mem_of_getElem? (i := 11) rfl)
theorem mw_15_5 : Cond.selects RX9 yX9_addToken yX9_addToken ∈ wU := in_U12 _ (List.mem_of_getElem? (i := 12) rfl)
theorem mw_15_6 : Cond.code yX9_addToken cX9_addToken 4 none ∈ wU := in_U12 _ (List.mem_of_getElem? (i := 13) rfl)
theorem mw_15_18 : Cond.methodLink RX4 28 yX6_clear ∈ wU := in_U12 _ (List.mem_of_getElem? (i := 14) rfl)
theorem mw_15_19 : Cond.instanceMethod yX6_clear ∈ wU := in_U12 _ (List.mem_of_getElem? (i := 15) rfl)
theorem mw_15_20 : Cond.selects RX6 yX6_clear yX6_clear ∈ wU := in_U12 _ (List.mem_of_getElem? (i := 16) rfl)
theorem mw_15_21 : Cond.code yX6_clear cX6_clear 1 none ∈ wU := in_U12 _ (List.mem_of_getElem? (i := 17) rfl)
theorem mw_15_22 : Cond.fieldLink RX6 50 "HalfDrop$Room" "openings" "I" ∈ wU := in_U12 _ (List.mem_of_getElem? (i := 18) rfl)
theorem mw_15_23 : Cond.fieldLink RX6 54 "HalfDrop$Room" "stands" "I" ∈ wU := in_U12 _ (List.mem_of_getElem? (i := 19) rfl)
theorem mw_16_0 : Cond.methodLink RX6 47 yX10_clear ∈ wU := in_U12 _ (List.mem_of_getElem? (i := 20) rfl)
theorem mw_16_1 : Cond.instanceMethod yX10_clear ∈ wU := in_U12 _ (List.mem_of_getElem? (i := 21) rfl)
theorem mw_16_2 : Cond.selects RX10 yX10_clear yX10_clear ∈ wU := in_U12 _ (List.mem_of_getElem? (i := 22) rfl)
theorem mw_16_3 : Cond.code yX10_clear cX10_clear 1 none ∈ wU := in_U12 _ (List.mem_of_getElem? (i := 23) rfl)
theorem mw_16_4 : Cond.fieldLink RX10 29 "HalfDrop$Walls" "number" "I" ∈ wU := in_U13 _ (List.mem_of_getElem? (i := 0) rfl)
theorem mw_16_5 : Cond.fieldLink RX10 33 "HalfDrop$Walls" "round" "I" ∈ wU := in_U13 _ (List.mem_of_getElem? (i := 1) rfl)
theorem mw_16_6 : Cond.methodLink RX4 33 yX4_isNext ∈ wU := in_U13 _ (List.mem_of_getElem? (i := 2) rfl)
theorem mw_16_7 : Cond.instanceMethod yX4_isNext ∈ wU := in_U13 _ (List.mem_of_getElem? (i := 3) rfl)
theorem mw_16_8 : Cond.selects RX4 yX4_isNext yX4_isNext ∈ wU := in_U13 _ (List.mem_of_getElem? (i := 4) rfl)
theorem mw_16_9 : Cond.code yX4_isNext cX4_isNext 2 (some .boolean) ∈ wU := in_U13 _ (List.mem_of_getElem? (i := 5) rfl)
theorem mw_16_10 : Cond.fieldLink RX4 57 "HalfDrop$Text" "tokens" "I" ∈ wU := in_U13 _ (List.mem_of_getElem? (i := 6) rfl)
theorem mw_16_11 : Cond.fieldLink RX4 60 "HalfDrop$Text" "kinds" "[I" ∈ wU := in_U13 _ (List.mem_of_getElem? (i := 7) rfl)
theorem mw_19_13 : Cond.methodLink RL 27 yX12_fault ∈ wU := in_U13 _ (List.mem_of_getElem? (i := 8) rfl)
theorem mw_19_14 : Cond.instanceMethod yX12_fault ∈ wU := in_U13 _ (List.mem_of_getElem? (i := 9) rfl)
theorem mw_19_15 : Cond.selects RX12 yX12_fault yX12_fault ∈ wU := in_U13 _ (List.mem_of_getElem? (i := 10) rfl)
theorem mw_19_16 : Cond.code yX12_fault cX12_fault 1 (some .int) ∈ wU := in_U13 _ (List.mem_of_getElem? (i := 11) rfl)
theorem mw_19_17 : Cond.fieldLink RX12 219 "HalfDropModel" "faultAt" "I" ∈ wU := in_U13 _ (List.mem_of_getElem? (i := 12) rfl)
theorem mw_19_18 : Cond.methodLink RX12 275 yX12_reads ∈ wU := in_U13 _ (List.mem_of_getElem? (i := 13) rfl)
theorem mw_19_19 : Cond.instanceMethod yX12_reads ∈ wU := in_U13 _ (List.mem_of_getElem? (i := 14) rfl)
theorem mw_19_20 : Cond.selects RX12 yX12_reads yX12_reads ∈ wU := in_U13 _ (List.mem_of_getElem? (i := 15) rfl)
theorem mw_19_21 : Cond.code yX12_reads cX12_reads 2 none ∈ wU := in_U13 _ (List.mem_of_getElem? (i := 16) rfl)
theorem mw_19_22 : Cond.fieldLink RX12 209 "HalfDropModel" "to" "I" ∈ wU := in_U13 _ (List.mem_of_getElem? (i := 17) rfl)
theorem mw_19_23 : Cond.fieldLink RX12 212 "HalfDropModel" "at" "I" ∈ wU := in_U13 _ (List.mem_of_getElem? (i := 18) rfl)
theorem mw_20_0 : Cond.methodLink RX12 222 yX12_next ∈ wU := in_U13 _ (List.mem_of_getElem? (i := 19) rfl)
theorem mw_20_1 : Cond.instanceMethod yX12_next ∈ wU := in_U13 _ (List.mem_of_getElem? (i := 20) rfl)
theorem mw_20_2 : Cond.selects RX12 yX12_next yX12_next ∈ wU := in_U13 _ (List.mem_of_getElem? (i := 21) rfl)
theorem mw_20_3 : Cond.code yX12_next cX12_next 1 none ∈ wU := in_U13 _ (List.mem_of_getElem? (i := 22) rfl)
theorem mw_20_4 : Cond.methodLink RX12 215 yX12_between ∈ wU := in_U13 _ (List.mem_of_getElem? (i := 23) rfl)
theorem mw_20_5 : Cond.instanceMethod yX12_between ∈ wU := in_U14 _ (List.mem_of_getElem? (i := 0) rfl)
theorem mw_20_6 : Cond.selects RX12 yX12_between yX12_between ∈ wU := in_U14 _ (List.mem_of_getElem? (i := 1) rfl)
theorem mw_20_7 : Cond.code yX12_between cX12_between 4 (some .boolean) ∈ wU := in_U14 _ (List.mem_of_getElem? (i := 2) rfl)
theorem mw_22_4 : Cond.methodLink RL 28 yX11_room ∈ wU := in_U14 _ (List.mem_of_getElem? (i := 3) rfl)
theorem mw_22_5 : Cond.instanceMethod yX11_room ∈ wU := in_U14 _ (List.mem_of_getElem? (i := 4) rfl)
theorem mw_22_6 : Cond.selects RX11 yX11_room yX11_room ∈ wU := in_U14 _ (List.mem_of_getElem? (i := 5) rfl)
theorem mw_22_7 : Cond.code yX11_room cX11_room 1 (some .int) ∈ wU := in_U14 _ (List.mem_of_getElem? (i := 6) rfl)
theorem mw_22_8 : Cond.methodLink RL 31 yX12_room ∈ wU := in_U14 _ (List.mem_of_getElem? (i := 7) rfl)
theorem mw_22_9 : Cond.instanceMethod yX12_room ∈ wU := in_U14 _ (List.mem_of_getElem? (i := 8) rfl)
theorem mw_22_10 : Cond.selects RX12 yX12_room yX12_room ∈ wU := in_U14 _ (List.mem_of_getElem? (i := 9) rfl)
theorem mw_22_11 : Cond.code yX12_room cX12_room 3 (some .int) ∈ wU := in_U14 _ (List.mem_of_getElem? (i := 10) rfl)
theorem mw_22_12 : Cond.fieldLink RX12 278 "HalfDropModel" "rooms" "I" ∈ wU := in_U14 _ (List.mem_of_getElem? (i := 11) rfl)
theorem mw_22_13 : Cond.methodLink RL 32 yX11_of ∈ wU := in_U14 _ (List.mem_of_getElem? (i := 12) rfl)
theorem mw_22_14 : Cond.instanceMethod yX11_of ∈ wU := in_U14 _ (List.mem_of_getElem? (i := 13) rfl)
theorem mw_22_15 : Cond.selects RX11 yX11_of yX11_of ∈ wU := in_U14 _ (List.mem_of_getElem? (i := 14) rfl)
theorem mw_22_16 : Cond.code yX11_of cX11_of 4 (some .int) ∈ wU := in_U14 _ (List.mem_of_getElem? (i := 15) rfl)
theorem mw_23_4 : Cond.methodLink RX11 116 yX11_roomAt ∈ wU := in_U14 _ (List.mem_of_getElem? (i := 16) rfl)
theorem mw_23_5 : Cond.instanceMethod yX11_roomAt ∈ wU := in_U14 _ (List.mem_of_getElem? (i := 17) rfl)
theorem mw_23_6 : Cond.selects RX11 yX11_roomAt yX11_roomAt ∈ wU := in_U14 _ (List.mem_of_getElem? (i := 18) rfl)
theorem mw_23_7 : Cond.code yX11_roomAt cX11_roomAt 2 (some (.object "HalfDrop$Room")) ∈ wU := in_U14 _ (List.mem_of_getElem? (i := 19) rfl)
theorem mw_23_8 : Cond.methodLink RX11 159 yX11_isFrom ∈ wU := in_U14 _ (List.mem_of_getElem? (i := 20) rfl)
theorem mw_23_9 : Cond.methodLink RX11 120 yX11_lay ∈ wU := in_U14 _ (List.mem_of_getElem? (i := 21) rfl)
theorem mw_23_10 : Cond.instanceMethod yX11_lay ∈ wU := in_U14 _ (List.mem_of_getElem? (i := 22) rfl)
theorem mw_23_11 : Cond.selects RX11 yX11_lay yX11_lay ∈ wU := in_U14 _ (List.mem_of_getElem? (i := 23) rfl)
theorem mw_23_12 : Cond.code yX11_lay cX11_lay 4 (some .boolean) ∈ wU := in_U15 _ (List.mem_of_getElem? (i := 0) rfl)
theorem mw_23_15 : Cond.methodLink RX11 174 yX11_paperAt ∈ wU := in_U15 _ (List.mem_of_getElem? (i := 1) rfl)
theorem mw_23_16 : Cond.instanceMethod yX11_paperAt ∈ wU := in_U15 _ (List.mem_of_getElem? (i := 2) rfl)
theorem mw_23_17 : Cond.selects RX11 yX11_paperAt yX11_paperAt ∈ wU := in_U15 _ (List.mem_of_getElem? (i := 3) rfl)
theorem mw_23_18 : Cond.code yX11_paperAt cX11_paperAt 2 (some (.object "HalfDrop$Paper")) ∈ wU := in_U15 _ (List.mem_of_getElem? (i := 4) rfl)
theorem mw_24_12 : Cond.initialized RX3 ∈ wU := in_U15 _ (List.mem_of_getElem? (i := 5) rfl)
theorem mw_24_14 : Cond.fieldLink RX3 9 "HalfDrop$Paper" "width" "I" ∈ wU := in_U15 _ (List.mem_of_getElem? (i := 6) rfl)
theorem mw_26_22 : Cond.fieldLink RX3 18 "HalfDrop$Paper" "drop" "I" ∈ wU := in_U15 _ (List.mem_of_getElem? (i := 7) rfl)
theorem mw_26_23 : Cond.fieldLink RX3 15 "HalfDrop$Paper" "repeat" "I" ∈ wU := in_U15 _ (List.mem_of_getElem? (i := 8) rfl)
theorem mw_27_20 : Cond.methodLink RL 36 yX12_of ∈ wU := in_U15 _ (List.mem_of_getElem? (i := 9) rfl)
theorem mw_27_21 : Cond.instanceMethod yX12_of ∈ wU := in_U15 _ (List.mem_of_getElem? (i := 10) rfl)
theorem mw_27_22 : Cond.selects RX12 yX12_of yX12_of ∈ wU := in_U15 _ (List.mem_of_getElem? (i := 11) rfl)
theorem mw_27_23 : Cond.code yX12_of cX12_of 3 (some .int) ∈ wU := in_U15 _ (List.mem_of_getElem? (i := 12) rfl)
theorem mw_28_5 : Cond.methodLink RX12 284 yX12_isRoom ∈ wU := in_U15 _ (List.mem_of_getElem? (i := 13) rfl)
theorem mw_28_6 : Cond.instanceMethod yX12_isRoom ∈ wU := in_U15 _ (List.mem_of_getElem? (i := 14) rfl)
theorem mw_28_7 : Cond.selects RX12 yX12_isRoom yX12_isRoom ∈ wU := in_U15 _ (List.mem_of_getElem? (i := 15) rfl)
theorem mw_28_8 : Cond.code yX12_isRoom cX12_isRoom 2 (some .boolean) ∈ wU := in_U15 _ (List.mem_of_getElem? (i := 16) rfl)
theorem mw_28_9 : Cond.methodLink RX12 362 yX12_isDone ∈ wU := in_U15 _ (List.mem_of_getElem? (i := 17) rfl)
theorem mw_28_10 : Cond.instanceMethod yX12_isDone ∈ wU := in_U15 _ (List.mem_of_getElem? (i := 18) rfl)
theorem mw_28_11 : Cond.selects RX12 yX12_isDone yX12_isDone ∈ wU := in_U15 _ (List.mem_of_getElem? (i := 19) rfl)
theorem mw_28_12 : Cond.code yX12_isDone cX12_isDone 2 (some .boolean) ∈ wU := in_U15 _ (List.mem_of_getElem? (i := 20) rfl)
theorem mw_30_7 : Cond.methodLink RL 37 yX11_height ∈ wU := in_U15 _ (List.mem_of_getElem? (i := 21) rfl)
theorem mw_30_8 : Cond.instanceMethod yX11_height ∈ wU := in_U15 _ (List.mem_of_getElem? (i := 22) rfl)
theorem mw_30_9 : Cond.selects RX11 yX11_height yX11_height ∈ wU := in_U15 _ (List.mem_of_getElem? (i := 23) rfl)
theorem mw_30_10 : Cond.code yX11_height cX11_height 4 (some .int) ∈ wU := in_U16 _ (List.mem_of_getElem? (i := 0) rfl)
theorem mw_30_18 : Cond.methodLink RL 40 yX12_height ∈ wU := in_U16 _ (List.mem_of_getElem? (i := 1) rfl)
theorem mw_30_19 : Cond.instanceMethod yX12_height ∈ wU := in_U16 _ (List.mem_of_getElem? (i := 2) rfl)
theorem mw_30_20 : Cond.selects RX12 yX12_height yX12_height ∈ wU := in_U16 _ (List.mem_of_getElem? (i := 3) rfl)
theorem mw_30_21 : Cond.code yX12_height cX12_height 4 (some .int) ∈ wU := in_U16 _ (List.mem_of_getElem? (i := 4) rfl)
theorem mw_30_22 : Cond.methodLink RL 41 yX11_paper ∈ wU := in_U16 _ (List.mem_of_getElem? (i := 5) rfl)
theorem mw_30_23 : Cond.instanceMethod yX11_paper ∈ wU := in_U16 _ (List.mem_of_getElem? (i := 6) rfl)
theorem mw_31_0 : Cond.selects RX11 yX11_paper yX11_paper ∈ wU := in_U16 _ (List.mem_of_getElem? (i := 7) rfl)
theorem mw_31_1 : Cond.code yX11_paper cX11_paper 6 (some .int) ∈ wU := in_U16 _ (List.mem_of_getElem? (i := 8) rfl)
theorem mw_31_2 : Cond.instantiable RX3 6 ∈ wU := in_U16 _ (List.mem_of_getElem? (i := 9) rfl)
theorem mw_31_3 : Cond.methodLink RX11 167 yX3_canBe ∈ wU := in_U16 _ (List.mem_of_getElem? (i := 10) rfl)
theorem mw_31_4 : Cond.static yX3_canBe ∈ wU := in_U16 _ (List.mem_of_getElem? (i := 11) rfl)
theorem mw_31_5 : Cond.code yX3_canBe cX3_canBe 5 (some .boolean) ∈ wU := in_U16 _ (List.mem_of_getElem? (i := 12) rfl)
theorem mw_31_6 : Cond.methodLink RX11 171 yX3_init ∈ wU := in_U16 _ (List.mem_of_getElem? (i := 13) rfl)
theorem mw_31_7 : Cond.instanceMethod yX3_init ∈ wU := in_U16 _ (List.mem_of_getElem? (i := 14) rfl)
theorem mw_31_8 : Cond.code yX3_init cX3_init 6 none ∈ wU := in_U16 _ (List.mem_of_getElem? (i := 15) rfl)
theorem mw_31_9 : Cond.methodLink RX3 3 objectInit ∈ wU := in_U16 _ (List.mem_of_getElem? (i := 16) rfl)
theorem mw_31_10 : Cond.fieldLink RX3 21 "HalfDrop$Paper" "roll" "I" ∈ wU := in_U16 _ (List.mem_of_getElem? (i := 17) rfl)
theorem mw_31_11 : Cond.fieldLink RX3 24 "HalfDrop$Paper" "figureFrom" "I" ∈ wU := in_U16 _ (List.mem_of_getElem? (i := 18) rfl)
theorem mw_31_12 : Cond.fieldLink RX3 27 "HalfDrop$Paper" "figureHigh" "I" ∈ wU := in_U16 _ (List.mem_of_getElem? (i := 19) rfl)
theorem mw_31_13 : Cond.methodLink RL 44 yX12_paper ∈ wU := in_U16 _ (List.mem_of_getElem? (i := 20) rfl)
theorem mw_31_14 : Cond.instanceMethod yX12_paper ∈ wU := in_U16 _ (List.mem_of_getElem? (i := 21) rfl)
theorem mw_31_15 : Cond.selects RX12 yX12_paper yX12_paper ∈ wU := in_U16 _ (List.mem_of_getElem? (i := 22) rfl)
theorem mw_31_16 : Cond.code yX12_paper cX12_paper 6 (some .int) ∈ wU := in_U16 _ (List.mem_of_getElem? (i := 23) rfl)
theorem mw_31_17 : Cond.constantLong RX12 297 (20) ∈ wU := in_U17 _ (List.mem_of_getElem? (i := 0) rfl)
theorem mw_31_18 : Cond.constantLong RX12 299 (120) ∈ wU := in_U17 _ (List.mem_of_getElem? (i := 1) rfl)
theorem mw_31_19 : Cond.constantLong RX12 301 (10) ∈ wU := in_U17 _ (List.mem_of_getElem? (i := 2) rfl)
theorem mw_31_20 : Cond.constantLong RX12 303 (2) ∈ wU := in_U17 _ (List.mem_of_getElem? (i := 3) rfl)
theorem mw_31_21 : Cond.constantLong RX12 305 (300) ∈ wU := in_U17 _ (List.mem_of_getElem? (i := 4) rfl)
theorem mw_31_22 : Cond.constantLong RX12 307 (2000) ∈ wU := in_U17 _ (List.mem_of_getElem? (i := 5) rfl)
theorem mw_31_23 : Cond.fieldLink RX12 309 "HalfDropModel" "papers" "I" ∈ wU := in_U17 _ (List.mem_of_getElem? (i := 6) rfl)
theorem mw_32_0 : Cond.methodLink RL 45 yX11_trim ∈ wU := in_U17 _ (List.mem_of_getElem? (i := 7) rfl)
theorem mw_32_1 : Cond.instanceMethod yX11_trim ∈ wU := in_U17 _ (List.mem_of_getElem? (i := 8) rfl)
theorem mw_32_2 : Cond.selects RX11 yX11_trim yX11_trim ∈ wU := in_U17 _ (List.mem_of_getElem? (i := 9) rfl)
theorem mw_32_3 : Cond.code yX11_trim cX11_trim 2 (some .boolean) ∈ wU := in_U17 _ (List.mem_of_getElem? (i := 10) rfl)
theorem mw_32_4 : Cond.methodLink RL 48 yX12_trim ∈ wU := in_U17 _ (List.mem_of_getElem? (i := 11) rfl)
theorem mw_32_5 : Cond.instanceMethod yX12_trim ∈ wU := in_U17 _ (List.mem_of_getElem? (i := 12) rfl)
theorem mw_32_6 : Cond.selects RX12 yX12_trim yX12_trim ∈ wU := in_U17 _ (List.mem_of_getElem? (i := 13) rfl)
theorem mw_32_7 : Cond.code yX12_trim cX12_trim 2 (some .boolean) ∈ wU := in_U17 _ (List.mem_of_getElem? (i := 14) rfl)
theorem mw_32_8 : Cond.methodLink RL 49 yX11_done ∈ wU := in_U17 _ (List.mem_of_getElem? (i := 15) rfl)
theorem mw_32_9 : Cond.instanceMethod yX11_done ∈ wU := in_U17 _ (List.mem_of_getElem? (i := 16) rfl)
theorem mw_32_10 : Cond.selects RX11 yX11_done yX11_done ∈ wU := in_U17 _ (List.mem_of_getElem? (i := 17) rfl)
theorem mw_32_11 : Cond.code yX11_done cX11_done 7 (some .int) ∈ wU := in_U17 _ (List.mem_of_getElem? (i := 18) rfl)
theorem mw_32_14 : Cond.methodLink RL 53 yX12_done ∈ wU := in_U17 _ (List.mem_of_getElem? (i := 19) rfl)
theorem mw_32_15 : Cond.instanceMethod yX12_done ∈ wU := in_U17 _ (List.mem_of_getElem? (i := 20) rfl)
theorem mw_32_16 : Cond.selects RX12 yX12_done yX12_done ∈ wU := in_U17 _ (List.mem_of_getElem? (i := 21) rfl)
theorem mw_32_17 : Cond.code yX12_done cX12_done 5 (some .int) ∈ wU := in_U17 _ (List.mem_of_getElem? (i := 22) rfl)
theorem mw_32_18 : Cond.methodLink RX12 312 yX12_isPaper ∈ wU := in_U17 _ (List.mem_of_getElem? (i := 23) rfl)
theorem mw_32_19 : Cond.instanceMethod yX12_isPaper ∈ wU := in_U18 _ (List.mem_of_getElem? (i := 0) rfl)
theorem mw_32_20 : Cond.selects RX12 yX12_isPaper yX12_isPaper ∈ wU := in_U18 _ (List.mem_of_getElem? (i := 1) rfl)
theorem mw_32_21 : Cond.code yX12_isPaper cX12_isPaper 2 (some .boolean) ∈ wU := in_U18 _ (List.mem_of_getElem? (i := 2) rfl)
theorem mw_32_22 : Cond.methodLink RL 54 yX11_strip ∈ wU := in_U18 _ (List.mem_of_getElem? (i := 3) rfl)
theorem mw_32_23 : Cond.instanceMethod yX11_strip ∈ wU := in_U18 _ (List.mem_of_getElem? (i := 4) rfl)
theorem mw_33_0 : Cond.selects RX11 yX11_strip yX11_strip ∈ wU := in_U18 _ (List.mem_of_getElem? (i := 5) rfl)
theorem mw_33_1 : Cond.code yX11_strip cX11_strip 4 (some .int) ∈ wU := in_U18 _ (List.mem_of_getElem? (i := 6) rfl)
theorem mw_33_8 : Cond.methodLink RL 58 yX12_strip ∈ wU := in_U18 _ (List.mem_of_getElem? (i := 7) rfl)
theorem mw_33_9 : Cond.instanceMethod yX12_strip ∈ wU := in_U18 _ (List.mem_of_getElem? (i := 8) rfl)
theorem mw_33_10 : Cond.selects RX12 yX12_strip yX12_strip ∈ wU := in_U18 _ (List.mem_of_getElem? (i := 9) rfl)
theorem mw_33_11 : Cond.code yX12_strip cX12_strip 4 (some .int) ∈ wU := in_U18 _ (List.mem_of_getElem? (i := 10) rfl)
theorem mw_33_16 : Cond.methodLink RL 59 yX11_piece ∈ wU := in_U18 _ (List.mem_of_getElem? (i := 11) rfl)
theorem mw_33_17 : Cond.instanceMethod yX11_piece ∈ wU := in_U18 _ (List.mem_of_getElem? (i := 12) rfl)
theorem mw_33_18 : Cond.selects RX11 yX11_piece yX11_piece ∈ wU := in_U18 _ (List.mem_of_getElem? (i := 13) rfl)
theorem mw_33_19 : Cond.code yX11_piece cX11_piece 4 (some .int) ∈ wU := in_U18 _ (List.mem_of_getElem? (i := 14) rfl)
theorem mw_35_10 : Cond.methodLink RL 62 yX12_piece ∈ wU := in_U18 _ (List.mem_of_getElem? (i := 15) rfl)
theorem mw_35_11 : Cond.instanceMethod yX12_piece ∈ wU := in_U18 _ (List.mem_of_getElem? (i := 16) rfl)
theorem mw_35_12 : Cond.selects RX12 yX12_piece yX12_piece ∈ wU := in_U18 _ (List.mem_of_getElem? (i := 17) rfl)
theorem mw_35_13 : Cond.code yX12_piece cX12_piece 4 (some .int) ∈ wU := in_U18 _ (List.mem_of_getElem? (i := 18) rfl)
theorem mw_36_15 : Cond.methodLink RL 63 yX11_rolls ∈ wU := in_U18 _ (List.mem_of_getElem? (i := 19) rfl)
theorem mw_36_16 : Cond.instanceMethod yX11_rolls ∈ wU := in_U18 _ (List.mem_of_getElem? (i := 20) rfl)
theorem mw_36_17 : Cond.selects RX11 yX11_rolls yX11_rolls ∈ wU := in_U18 _ (List.mem_of_getElem? (i := 21) rfl)
theorem mw_36_18 : Cond.code yX11_rolls cX11_rolls 3 (some .int) ∈ wU := in_U18 _ (List.mem_of_getElem? (i := 22) rfl)
theorem mw_37_18 : Cond.methodLink RL 66 yX12_rolls ∈ wU := in_U18 _ (List.mem_of_getElem? (i := 23) rfl)
theorem mw_37_19 : Cond.instanceMethod yX12_rolls ∈ wU := in_U19 _ (List.mem_of_getElem? (i := 0) rfl)
theorem mw_37_20 : Cond.selects RX12 yX12_rolls yX12_rolls ∈ wU := in_U19 _ (List.mem_of_getElem? (i := 1) rfl)
theorem mw_37_21 : Cond.code yX12_rolls cX12_rolls 5 (some .int) ∈ wU := in_U19 _ (List.mem_of_getElem? (i := 2) rfl)
theorem mw_38_2 : Cond.methodLink RL 67 yX11_left ∈ wU := in_U19 _ (List.mem_of_getElem? (i := 3) rfl)
theorem mw_38_3 : Cond.instanceMethod yX11_left ∈ wU := in_U19 _ (List.mem_of_getElem? (i := 4) rfl)
theorem mw_38_4 : Cond.selects RX11 yX11_left yX11_left ∈ wU := in_U19 _ (List.mem_of_getElem? (i := 5) rfl)
theorem mw_38_5 : Cond.code yX11_left cX11_left 4 (some .int) ∈ wU := in_U19 _ (List.mem_of_getElem? (i := 6) rfl)
theorem mw_38_8 : Cond.methodLink RL 70 yX12_left ∈ wU := in_U19 _ (List.mem_of_getElem? (i := 7) rfl)
theorem mw_38_9 : Cond.instanceMethod yX12_left ∈ wU := in_U19 _ (List.mem_of_getElem? (i := 8) rfl)
theorem mw_38_10 : Cond.selects RX12 yX12_left yX12_left ∈ wU := in_U19 _ (List.mem_of_getElem? (i := 9) rfl)
theorem mw_38_11 : Cond.code yX12_left cX12_left 4 (some .int) ∈ wU := in_U19 _ (List.mem_of_getElem? (i := 10) rfl)
theorem mw_38_12 : Cond.methodLink RL 71 yX11_faults ∈ wU := in_U19 _ (List.mem_of_getElem? (i := 11) rfl)
theorem mw_38_13 : Cond.instanceMethod yX11_faults ∈ wU := in_U19 _ (List.mem_of_getElem? (i := 12) rfl)
theorem mw_38_14 : Cond.selects RX11 yX11_faults yX11_faults ∈ wU := in_U19 _ (List.mem_of_getElem? (i := 13) rfl)
theorem mw_38_15 : Cond.code yX11_faults cX11_faults 4 (some .int) ∈ wU := in_U19 _ (List.mem_of_getElem? (i := 14) rfl)
theorem mw_41_23 : Cond.methodLink RL 74 yX12_faults ∈ wU := in_U19 _ (List.mem_of_getElem? (i := 15) rfl)
theorem mw_42_0 : Cond.instanceMethod yX12_faults ∈ wU := in_U19 _ (List.mem_of_getElem? (i := 16) rfl)
theorem mw_42_1 : Cond.selects RX12 yX12_faults yX12_faults ∈ wU := in_U19 _ (List.mem_of_getElem? (i := 17) rfl)
theorem mw_42_2 : Cond.code yX12_faults cX12_faults 4 (some .int) ∈ wU := in_U19 _ (List.mem_of_getElem? (i := 18) rfl)
theorem mw_43_1 : Cond.methodLink RL 75 yX11_best ∈ wU := in_U19 _ (List.mem_of_getElem? (i := 19) rfl)
theorem mw_43_2 : Cond.instanceMethod yX11_best ∈ wU := in_U19 _ (List.mem_of_getElem? (i := 20) rfl)
theorem mw_43_3 : Cond.selects RX11 yX11_best yX11_best ∈ wU := in_U19 _ (List.mem_of_getElem? (i := 21) rfl)
theorem mw_43_4 : Cond.code yX11_best cX11_best 7 (some .int) ∈ wU := in_U19 _ (List.mem_of_getElem? (i := 22) rfl)
theorem mw_44_3 : Cond.methodLink RL 78 yX12_best ∈ wU := in_U19 _ (List.mem_of_getElem? (i := 23) rfl)
theorem mw_44_4 : Cond.instanceMethod yX12_best ∈ wU := in_U20 _ (List.mem_of_getElem? (i := 0) rfl)
theorem mw_44_5 : Cond.selects RX12 yX12_best yX12_best ∈ wU := in_U20 _ (List.mem_of_getElem? (i := 1) rfl)
theorem mw_44_6 : Cond.code yX12_best cX12_best 11 (some .int) ∈ wU := in_U20 _ (List.mem_of_getElem? (i := 2) rfl)
theorem mw_44_8 : Cond.methodLink RL 79 yX11_shown ∈ wU := in_U20 _ (List.mem_of_getElem? (i := 3) rfl)
theorem mw_44_9 : Cond.instanceMethod yX11_shown ∈ wU := in_U20 _ (List.mem_of_getElem? (i := 4) rfl)
theorem mw_44_10 : Cond.selects RX11 yX11_shown yX11_shown ∈ wU := in_U20 _ (List.mem_of_getElem? (i := 5) rfl)
theorem mw_44_11 : Cond.code yX11_shown cX11_shown 4 (some .int) ∈ wU := in_U20 _ (List.mem_of_getElem? (i := 6) rfl)
theorem mw_45_6 : Cond.methodLink RL 82 yX12_shown ∈ wU := in_U20 _ (List.mem_of_getElem? (i := 7) rfl)
theorem mw_45_7 : Cond.instanceMethod yX12_shown ∈ wU := in_U20 _ (List.mem_of_getElem? (i := 8) rfl)
theorem mw_45_8 : Cond.selects RX12 yX12_shown yX12_shown ∈ wU := in_U20 _ (List.mem_of_getElem? (i := 9) rfl)
theorem mw_45_9 : Cond.code yX12_shown cX12_shown 3 (some .int) ∈ wU := in_U20 _ (List.mem_of_getElem? (i := 10) rfl)
theorem mw_45_10 : Cond.methodLink RX12 425 yX12_areCuts ∈ wU := in_U20 _ (List.mem_of_getElem? (i := 11) rfl)
theorem mw_45_11 : Cond.instanceMethod yX12_areCuts ∈ wU := in_U20 _ (List.mem_of_getElem? (i := 12) rfl)
theorem mw_45_12 : Cond.selects RX12 yX12_areCuts yX12_areCuts ∈ wU := in_U20 _ (List.mem_of_getElem? (i := 13) rfl)
theorem mw_45_13 : Cond.code yX12_areCuts cX12_areCuts 3 (some .boolean) ∈ wU := in_U20 _ (List.mem_of_getElem? (i := 14) rfl)
theorem mw_45_19 : Cond.methodLink RL 83 yX11_run ∈ wU := in_U20 _ (List.mem_of_getElem? (i := 15) rfl)
theorem mw_45_20 : Cond.instanceMethod yX11_run ∈ wU := in_U20 _ (List.mem_of_getElem? (i := 16) rfl)
theorem mw_45_21 : Cond.selects RX11 yX11_run yX11_run ∈ wU := in_U20 _ (List.mem_of_getElem? (i := 17) rfl)
theorem mw_45_22 : Cond.code yX11_run cX11_run 5 (some .int) ∈ wU := in_U20 _ (List.mem_of_getElem? (i := 18) rfl)
theorem mw_45_23 : Cond.constant RX11 297 (-2147483648) ∈ wU := in_U20 _ (List.mem_of_getElem? (i := 19) rfl)
theorem mw_46_4 : Cond.methodLink RL 86 yX12_run ∈ wU := in_U20 _ (List.mem_of_getElem? (i := 20) rfl)
theorem mw_46_5 : Cond.instanceMethod yX12_run ∈ wU := in_U20 _ (List.mem_of_getElem? (i := 21) rfl)
theorem mw_46_6 : Cond.selects RX12 yX12_run yX12_run ∈ wU := in_U20 _ (List.mem_of_getElem? (i := 22) rfl)
theorem mw_46_7 : Cond.code yX12_run cX12_run 5 (some .int) ∈ wU := in_U20 _ (List.mem_of_getElem? (i := 23) rfl)
theorem mw_46_8 : Cond.constant RX12 431 (-2147483648) ∈ wU := in_U21 _ (List.mem_of_getElem? (i := 0) rfl)
theorem mw_46_9 : Cond.methodLink RL 87 yX11_cuts ∈ wU := in_U21 _ (List.mem_of_getElem? (i := 1) rfl)
theorem mw_46_10 : Cond.instanceMethod yX11_cuts ∈ wU := in_U21 _ (List.mem_of_getElem? (i := 2) rfl)
theorem mw_46_11 : Cond.selects RX11 yX11_cuts yX11_cuts ∈ wU := in_U21 _ (List.mem_of_getElem? (i := 3) rfl)
theorem mw_46_12 : Cond.code yX11_cuts cX11_cuts 3 (some .int) ∈ wU := in_U21 _ (List.mem_of_getElem? (i := 4) rfl)
theorem mw_46_19 : Cond.methodLink RL 91 yX12_cuts_ ∈ wU := in_U21 _ (List.mem_of_getElem? (i := 5) rfl)
theorem mw_46_20 : Cond.instanceMethod yX12_cuts_ ∈ wU := in_U21 _ (List.mem_of_getElem? (i := 6) rfl)
theorem mw_46_21 : Cond.selects RX12 yX12_cuts_ yX12_cuts_ ∈ wU := in_U21 _ (List.mem_of_getElem? (i := 7) rfl)
theorem mw_46_22 : Cond.code yX12_cuts_ cX12_cuts_ 6 (some .int) ∈ wU := in_U21 _ (List.mem_of_getElem? (i := 8) rfl)
theorem mw_46_23 : Cond.methodLink RL 92 yX11_batch ∈ wU := in_U21 _ (List.mem_of_getElem? (i := 9) rfl)
theorem mw_47_0 : Cond.instanceMethod yX11_batch ∈ wU := in_U21 _ (List.mem_of_getElem? (i := 10) rfl)
theorem mw_47_1 : Cond.selects RX11 yX11_batch yX11_batch ∈ wU := in_U21 _ (List.mem_of_getElem? (i := 11) rfl)
theorem mw_47_2 : Cond.code yX11_batch cX11_batch 3 (some .int) ∈ wU := in_U21 _ (List.mem_of_getElem? (i := 12) rfl)
theorem mw_47_8 : Cond.methodLink RL 95 yX12_batch ∈ wU := in_U21 _ (List.mem_of_getElem? (i := 13) rfl)
theorem mw_47_9 : Cond.instanceMethod yX12_batch ∈ wU := in_U21 _ (List.mem_of_getElem? (i := 14) rfl)
theorem mw_47_10 : Cond.selects RX12 yX12_batch yX12_batch ∈ wU := in_U21 _ (List.mem_of_getElem? (i := 15) rfl)
theorem mw_47_11 : Cond.code yX12_batch cX12_batch 3 (some .int) ∈ wU := in_U21 _ (List.mem_of_getElem? (i := 16) rfl)
theorem mw_47_13 : Cond.fieldLink RX12 434 "HalfDropModel" "batches" "I" ∈ wU := in_U21 _ (List.mem_of_getElem? (i := 17) rfl)
theorem mw_47_14 : Cond.methodLink RL 96 yX11_shared ∈ wU := in_U21 _ (List.mem_of_getElem? (i := 18) rfl)
theorem mw_47_15 : Cond.instanceMethod yX11_shared ∈ wU := in_U21 _ (List.mem_of_getElem? (i := 19) rfl)
theorem mw_47_16 : Cond.selects RX11 yX11_shared yX11_shared ∈ wU := in_U21 _ (List.mem_of_getElem? (i := 20) rfl)
theorem mw_47_17 : Cond.code yX11_shared cX11_shared 3 (some .int) ∈ wU := in_U21 _ (List.mem_of_getElem? (i := 21) rfl)
theorem mw_49_17 : Cond.methodLink RL 99 yX12_shared ∈ wU := in_U21 _ (List.mem_of_getElem? (i := 22) rfl)
theorem mw_49_18 : Cond.instanceMethod yX12_shared ∈ wU := in_U21 _ (List.mem_of_getElem? (i := 23) rfl)
theorem mw_49_19 : Cond.selects RX12 yX12_shared yX12_shared ∈ wU := in_U22 _ (List.mem_of_getElem? (i := 0) rfl)
theorem mw_49_20 : Cond.code yX12_shared cX12_shared 4 (some .int) ∈ wU := in_U22 _ (List.mem_of_getElem? (i := 1) rfl)
theorem mw_50_10 : Cond.methodLink RL 100 yX11_own ∈ wU := in_U22 _ (List.mem_of_getElem? (i := 2) rfl)
theorem mw_50_11 : Cond.instanceMethod yX11_own ∈ wU := in_U22 _ (List.mem_of_getElem? (i := 3) rfl)
theorem mw_50_12 : Cond.selects RX11 yX11_own yX11_own ∈ wU := in_U22 _ (List.mem_of_getElem? (i := 4) rfl)
theorem mw_50_13 : Cond.code yX11_own cX11_own 3 (some .int) ∈ wU := in_U22 _ (List.mem_of_getElem? (i := 5) rfl)
theorem mw_50_14 : Cond.methodLink RL 103 yX12_own ∈ wU := in_U22 _ (List.mem_of_getElem? (i := 6) rfl)
theorem mw_50_15 : Cond.instanceMethod yX12_own ∈ wU := in_U22 _ (List.mem_of_getElem? (i := 7) rfl)
theorem mw_50_16 : Cond.selects RX12 yX12_own yX12_own ∈ wU := in_U22 _ (List.mem_of_getElem? (i := 8) rfl)
theorem mw_50_17 : Cond.code yX12_own cX12_own 3 (some .int) ∈ wU := in_U22 _ (List.mem_of_getElem? (i := 9) rfl)
theorem mw_50_18 : Cond.methodLink RL 104 yX11_all ∈ wU := in_U22 _ (List.mem_of_getElem? (i := 10) rfl)
theorem mw_50_19 : Cond.instanceMethod yX11_all ∈ wU := in_U22 _ (List.mem_of_getElem? (i := 11) rfl)
theorem mw_50_20 : Cond.selects RX11 yX11_all yX11_all ∈ wU := in_U22 _ (List.mem_of_getElem? (i := 12) rfl)
theorem mw_50_21 : Cond.code yX11_all cX11_all 4 (some .int) ∈ wU := in_U22 _ (List.mem_of_getElem? (i := 13) rfl)
theorem mw_50_22 : Cond.methodLink RL 107 yX12_all ∈ wU := in_U22 _ (List.mem_of_getElem? (i := 14) rfl)
theorem mw_50_23 : Cond.instanceMethod yX12_all ∈ wU := in_U22 _ (List.mem_of_getElem? (i := 15) rfl)
theorem mw_51_0 : Cond.selects RX12 yX12_all yX12_all ∈ wU := in_U22 _ (List.mem_of_getElem? (i := 16) rfl)
theorem mw_51_1 : Cond.code yX12_all cX12_all 4 (some .int) ∈ wU := in_U22 _ (List.mem_of_getElem? (i := 17) rfl)
theorem mw_51_2 : Cond.methodLink RL 108 yX11_keep ∈ wU := in_U22 _ (List.mem_of_getElem? (i := 18) rfl)
theorem mw_51_3 : Cond.instanceMethod yX11_keep ∈ wU := in_U22 _ (List.mem_of_getElem? (i := 19) rfl)
theorem mw_51_4 : Cond.selects RX11 yX11_keep yX11_keep ∈ wU := in_U22 _ (List.mem_of_getElem? (i := 20) rfl)
theorem mw_51_5 : Cond.code yX11_keep cX11_keep 5 (some .int) ∈ wU := in_U22 _ (List.mem_of_getElem? (i := 21) rfl)
theorem mw_51_10 : Cond.fieldLink RX8 33 "HalfDrop$State" "ends" "I" ∈ wU := in_U22 _ (List.mem_of_getElem? (i := 22) rfl)
theorem mw_51_11 : Cond.methodLink RL 111 yX12_keep ∈ wU := in_U22 _ (List.mem_of_getElem? (i := 23) rfl)
theorem mw_51_12 : Cond.instanceMethod yX12_keep ∈ wU := in_U23 _ (List.mem_of_getElem? (i := 0) rfl)
theorem mw_51_13 : Cond.selects RX12 yX12_keep yX12_keep ∈ wU := in_U23 _ (List.mem_of_getElem? (i := 1) rfl)
theorem mw_51_14 : Cond.code yX12_keep cX12_keep 4 (some .int) ∈ wU := in_U23 _ (List.mem_of_getElem? (i := 2) rfl)
theorem mw_51_15 : Cond.fieldLink RX12 449 "HalfDropModel" "ends" "I" ∈ wU := in_U23 _ (List.mem_of_getElem? (i := 3) rfl)
theorem mw_51_16 : Cond.methodLink RL 112 yX11_mended ∈ wU := in_U23 _ (List.mem_of_getElem? (i := 4) rfl)
theorem mw_51_17 : Cond.instanceMethod yX11_mended ∈ wU := in_U23 _ (List.mem_of_getElem? (i := 5) rfl)
theorem mw_51_18 : Cond.selects RX11 yX11_mended yX11_mended ∈ wU := in_U23 _ (List.mem_of_getElem? (i := 6) rfl)
theorem mw_51_19 : Cond.code yX11_mended cX11_mended 3 (some .int) ∈ wU := in_U23 _ (List.mem_of_getElem? (i := 7) rfl)
theorem mw_52_19 : Cond.methodLink RL 115 yX12_mended ∈ wU := in_U23 _ (List.mem_of_getElem? (i := 8) rfl)
theorem mw_52_20 : Cond.instanceMethod yX12_mended ∈ wU := in_U23 _ (List.mem_of_getElem? (i := 9) rfl)
theorem mw_52_21 : Cond.selects RX12 yX12_mended yX12_mended ∈ wU := in_U23 _ (List.mem_of_getElem? (i := 10) rfl)
theorem mw_52_22 : Cond.code yX12_mended cX12_mended 9 (some .int) ∈ wU := in_U23 _ (List.mem_of_getElem? (i := 11) rfl)
theorem mw_53_3 : Cond.methodLink RL 116 yX11_border ∈ wU := in_U23 _ (List.mem_of_getElem? (i := 12) rfl)
theorem mw_53_4 : Cond.instanceMethod yX11_border ∈ wU := in_U23 _ (List.mem_of_getElem? (i := 13) rfl)
theorem mw_53_5 : Cond.selects RX11 yX11_border yX11_border ∈ wU := in_U23 _ (List.mem_of_getElem? (i := 14) rfl)
theorem mw_53_6 : Cond.code yX11_border cX11_border 5 (some .int) ∈ wU := in_U23 _ (List.mem_of_getElem? (i := 15) rfl)
theorem mw_53_12 : Cond.methodLink RL 119 yX12_border ∈ wU := in_U23 _ (List.mem_of_getElem? (i := 16) rfl)
theorem mw_53_13 : Cond.instanceMethod yX12_border ∈ wU := in_U23 _ (List.mem_of_getElem? (i := 17) rfl)
theorem mw_53_14 : Cond.selects RX12 yX12_border yX12_border ∈ wU := in_U23 _ (List.mem_of_getElem? (i := 18) rfl)
theorem mw_53_15 : Cond.code yX12_border cX12_border 6 (some .int) ∈ wU := in_U23 _ (List.mem_of_getElem? (i := 19) rfl)
theorem mw_53_17 : Cond.methodLink RL 120 yX11_day ∈ wU := in_U23 _ (List.mem_of_getElem? (i := 20) rfl)
theorem mw_53_18 : Cond.instanceMethod yX11_day ∈ wU := in_U23 _ (List.mem_of_getElem? (i := 21) rfl)
theorem mw_53_19 : Cond.selects RX11 yX11_day yX11_day ∈ wU := in_U23 _ (List.mem_of_getElem? (i := 22) rfl)
theorem mw_53_20 : Cond.code yX11_day cX11_day 7 (some .int) ∈ wU := in_U23 _ (List.mem_of_getElem? (i := 23) rfl)
theorem mw_54_21 : Cond.methodLink RL 123 yX12_day ∈ wU := in_U24 _ (List.mem_of_getElem? (i := 0) rfl)
theorem mw_54_22 : Cond.instanceMethod yX12_day ∈ wU := in_U24 _ (List.mem_of_getElem? (i := 1) rfl)
theorem mw_54_23 : Cond.selects RX12 yX12_day yX12_day ∈ wU := in_U24 _ (List.mem_of_getElem? (i := 2) rfl)
theorem mw_55_0 : Cond.code yX12_day cX12_day 20 (some .int) ∈ wU := in_U24 _ (List.mem_of_getElem? (i := 3) rfl)
theorem mw_55_6 : Cond.methodLink RL 124 yX11_hang ∈ wU := in_U24 _ (List.mem_of_getElem? (i := 4) rfl)
theorem mw_55_7 : Cond.instanceMethod yX11_hang ∈ wU := in_U24 _ (List.mem_of_getElem? (i := 5) rfl)
theorem mw_55_8 : Cond.selects RX11 yX11_hang yX11_hang ∈ wU := in_U24 _ (List.mem_of_getElem? (i := 6) rfl)
theorem mw_55_9 : Cond.code yX11_hang cX11_hang 3 (some .int) ∈ wU := in_U24 _ (List.mem_of_getElem? (i := 7) rfl)
theorem mw_55_10 : Cond.methodLink RL 127 yX12_hang ∈ wU := in_U24 _ (List.mem_of_getElem? (i := 8) rfl)
theorem mw_55_11 : Cond.instanceMethod yX12_hang ∈ wU := in_U24 _ (List.mem_of_getElem? (i := 9) rfl)
theorem mw_55_12 : Cond.selects RX12 yX12_hang yX12_hang ∈ wU := in_U24 _ (List.mem_of_getElem? (i := 10) rfl)
theorem mw_55_13 : Cond.code yX12_hang cX12_hang 3 (some .int) ∈ wU := in_U24 _ (List.mem_of_getElem? (i := 11) rfl)
theorem mw_55_14 : Cond.methodLink RL 128 yX11_image ∈ wU := in_U24 _ (List.mem_of_getElem? (i := 12) rfl)
theorem mw_55_15 : Cond.instanceMethod yX11_image ∈ wU := in_U24 _ (List.mem_of_getElem? (i := 13) rfl)
theorem mw_55_16 : Cond.selects RX11 yX11_image yX11_image ∈ wU := in_U24 _ (List.mem_of_getElem? (i := 14) rfl)
theorem mw_55_17 : Cond.code yX11_image cX11_image 2 (some .boolean) ∈ wU := in_U24 _ (List.mem_of_getElem? (i := 15) rfl)
theorem mw_55_18 : Cond.methodLink RX11 353 yX8_copyFrom ∈ wU := in_U24 _ (List.mem_of_getElem? (i := 16) rfl)
theorem mw_55_19 : Cond.instanceMethod yX8_copyFrom ∈ wU := in_U24 _ (List.mem_of_getElem? (i := 17) rfl)
theorem mw_55_20 : Cond.selects RX8 yX8_copyFrom yX8_copyFrom ∈ wU := in_U24 _ (List.mem_of_getElem? (i := 18) rfl)
theorem mw_55_21 : Cond.code yX8_copyFrom cX8_copyFrom 3 none ∈ wU := in_U24 _ (List.mem_of_getElem? (i := 19) rfl)
theorem mw_55_22 : Cond.methodLink RL 131 yX12_image ∈ wU := in_U24 _ (List.mem_of_getElem? (i := 20) rfl)
theorem mw_55_23 : Cond.instanceMethod yX12_image ∈ wU := in_U24 _ (List.mem_of_getElem? (i := 21) rfl)
theorem mw_56_0 : Cond.selects RX12 yX12_image yX12_image ∈ wU := in_U24 _ (List.mem_of_getElem? (i := 22) rfl)
theorem mw_56_1 : Cond.code yX12_image cX12_image 3 (some .boolean) ∈ wU := in_U24 _ (List.mem_of_getElem? (i := 23) rfl)
theorem mw_56_2 : Cond.methodLink RL 132 yX11_on ∈ wU := in_U25 _ (List.mem_of_getElem? (i := 0) rfl)
theorem mw_56_3 : Cond.instanceMethod yX11_on ∈ wU := in_U25 _ (List.mem_of_getElem? (i := 1) rfl)
theorem mw_56_4 : Cond.selects RX11 yX11_on yX11_on ∈ wU := in_U25 _ (List.mem_of_getElem? (i := 2) rfl)
theorem mw_56_5 : Cond.code yX11_on cX11_on 2 (some .boolean) ∈ wU := in_U25 _ (List.mem_of_getElem? (i := 3) rfl)
theorem mw_56_6 : Cond.methodLink RL 135 yX12_on ∈ wU := in_U25 _ (List.mem_of_getElem? (i := 4) rfl)
theorem mw_56_7 : Cond.instanceMethod yX12_on ∈ wU := in_U25 _ (List.mem_of_getElem? (i := 5) rfl)
theorem mw_56_8 : Cond.selects RX12 yX12_on yX12_on ∈ wU := in_U25 _ (List.mem_of_getElem? (i := 6) rfl)
theorem mw_56_9 : Cond.code yX12_on cX12_on 4 (some .boolean) ∈ wU := in_U25 _ (List.mem_of_getElem? (i := 7) rfl)
theorem mw_56_10 : Cond.methodLink RL 136 yX11_count ∈ wU := in_U25 _ (List.mem_of_getElem? (i := 8) rfl)
theorem mw_56_11 : Cond.instanceMethod yX11_count ∈ wU := in_U25 _ (List.mem_of_getElem? (i := 9) rfl)
theorem mw_56_12 : Cond.selects RX11 yX11_count yX11_count ∈ wU := in_U25 _ (List.mem_of_getElem? (i := 10) rfl)
theorem mw_56_13 : Cond.code yX11_count cX11_count 2 (some .int) ∈ wU := in_U25 _ (List.mem_of_getElem? (i := 11) rfl)
theorem mw_56_14 : Cond.fieldLink RX11 357 "HalfDrop$Sharing" "batches" "I" ∈ wU := in_U25 _ (List.mem_of_getElem? (i := 12) rfl)
theorem mw_56_15 : Cond.fieldLink RX11 360 "HalfDrop$State" "ends" "I" ∈ wU := in_U25 _ (List.mem_of_getElem? (i := 13) rfl)
theorem mw_56_16 : Cond.methodLink RL 139 yX12_count ∈ wU := in_U25 _ (List.mem_of_getElem? (i := 14) rfl)
theorem mw_56_17 : Cond.instanceMethod yX12_count ∈ wU := in_U25 _ (List.mem_of_getElem? (i := 15) rfl)
theorem mw_56_18 : Cond.selects RX12 yX12_count yX12_count ∈ wU := in_U25 _ (List.mem_of_getElem? (i := 16) rfl)
theorem mw_56_19 : Cond.code yX12_count cX12_count 2 (some .int) ∈ wU := in_U25 _ (List.mem_of_getElem? (i := 17) rfl)
end
section
/-! ===== new int[n][k] over the machine, my own walk of it (the rows that the printed names bring for it lean on words that no round has) ===== -/
def mgC (c : ClassId) (N h i : Nat) : Cell := arrV c N (fun j => va_rf (if j < i then some (h + 1 + j) else none))
def mgR (comp : ClassId) (K : Nat) : Cell := arrV comp K (fun _ => .int 0)
/-- the state with the outer row made and i inner ones laid into it -/
def mgF (T : State) (c comp : ClassId) (N K : Nat) : Nat → State
  | 0 => T.pushCell (mgC c N T.heap.size 0)
  | i + 1 => ((mgF T c comp N K i).pushCell (mgR comp K)).setCell T.heap.size (mgC c N T.heap.size (i + 1))
theorem mgC_next (c : ClassId) (N h i : Nat) : (mgC c N h i).setSlot i (.ref (h + 1 + i)) = mgC c N h (i + 1) := by
  unfold mgC
  rw [arrV_store]
  refine congrArg (arrV c N) (funext fun j => ?_)
  by_cases hj : j = i
  · subst hj; simp [updV, va_rf]
  · by_cases h2 : j < i
    · simp [updV, hj, h2, Nat.lt_succ_of_lt h2]
    · simp [updV, hj, h2, show ¬ j < i + 1 by omega]
theorem mgF_vm (T : State) (c comp : ClassId) (N K : Nat) : ∀ i, (mgF T c comp N K i).vm = T.vm
  | 0 => rfl
  | i + 1 => by simp [mgF, mgF_vm T c comp N K i]
theorem mgF_size (T : State) (c comp : ClassId) (N K : Nat) : ∀ i, (mgF T c comp N K i).heap.size = T.heap.size + 1 + i
  | 0 => by simp [mgF]
  | i + 1 => by simp [mgF, State.setCell, mgF_size T c comp N K i]; omega
theorem mgF_used (T : State) (c comp : ClassId) (N K : Nat) : ∀ i, (mgF T c comp N K i).slotsUsed = T.slotsUsed + N + i * K
  | 0 => by simp [mgF, mgC, arrV_size]
  | i + 1 => by simp [mgF, mgF_used T c comp N K i, mgR, arrV_size, Nat.succ_mul]; omega
theorem mgF_head (T : State) (c comp : ClassId) (N K : Nat) : ∀ i, (mgF T c comp N K i).heap[T.heap.size]? = some (mgC c N T.heap.size i)
  | 0 => by simp [mgF]
  | i + 1 => by
    have h0 : T.heap.size < (mgF T c comp N K i).heap.size := by rw [mgF_size]; omega
    exact State.heap_setCell_self (c := mgC c N T.heap.size i) (by rw [State.heap_pushCell_of_lt (h := h0)]; exact mgF_head T c comp N K i)
theorem mgF_old (T : State) (c comp : ClassId) (N K : Nat) {a : Nat} (ha : a < T.heap.size) : ∀ i, (mgF T c comp N K i).heap[a]? = T.heap[a]?
  | 0 => State.heap_pushCell_of_lt _ _ ha
  | i + 1 => by
    have h0 : a < (mgF T c comp N K i).heap.size := by rw [mgF_size]; omega
    show (((mgF T c comp N K i).pushCell (mgR comp K)).setCell T.heap.size _).heap[a]? = _
    rw [State.heap_setCell_other (Nat.ne_of_gt ha), State.heap_pushCell_of_lt (h := h0)]
    exact mgF_old T c comp N K ha i
theorem mgF_row (T : State) (c comp : ClassId) (N K : Nat) : ∀ i j, j < i → (mgF T c comp N K i).heap[T.heap.size + 1 + j]? = some (mgR comp K)
  | 0, _, h => absurd h (Nat.not_lt_zero _)
  | i + 1, j, h => by
    have hz := mgF_size T c comp N K i
    show (((mgF T c comp N K i).pushCell (mgR comp K)).setCell T.heap.size _).heap[T.heap.size + 1 + j]? = _
    rw [State.heap_setCell_other (show T.heap.size ≠ T.heap.size + 1 + j by omega)]
    by_cases hj : j < i
    · have h0 : T.heap.size + 1 + j < (mgF T c comp N K i).heap.size := by omega
      rw [State.heap_pushCell_of_lt (h := h0)]
      exact mgF_row T c comp N K i j hj
    · rw [show T.heap.size + 1 + j = (mgF T c comp N K i).heap.size by rw [hz]; omega]
      exact State.heap_pushCell_size _ _
theorem mgF_top (T : State) (f : JFrame) (c comp : ClassId) (N K : Nat) : ∀ i, mgF (T.setTop f) c comp N K i = (mgF T c comp N K i).setTop f
  | 0 => rfl
  | i + 1 => by simp only [mgF, mgF_top T f c comp N K i, State.heap_setTop, State.pushCell_setTop, State.setCell_setTop]
section MG
variable {p : Program} {l : Launch} {e : Env} {R : Room} {s : State} {m : MethodId} {args : Array Value} {below : List Frame} {meth : Method} {c : Code} {T : State} {locs : List Loc} {cells slots : Nat}
theorem mg_stand (X : Stand p l e R s m args below meth c T locs cells slots) (cA comp : ClassId) (N K : Nat) : ∀ i, Stand p l e R s m args below meth c (mgF T cA comp N K i) (locs ++ (List.range i).map fun j => ⟨T.heap.size, j⟩) (cells + 1 + i) (slots + N + i * K)
  | 0 => by
    have h := X.pushed (mgC cA N T.heap.size 0)
    rw [show (mgC cA N T.heap.size 0).slots.size = N from arrV_size _ _ _] at h
    simpa [mgF] using h
  | i + 1 => by
    have h0 : T.heap.size < (mgF T cA comp N K i).heap.size := by rw [mgF_size]; omega
    have hc : ((mgF T cA comp N K i).pushCell (mgR comp K)).heap[T.heap.size]? = some (mgC cA N T.heap.size i) := by rw [State.heap_pushCell_of_lt (h := h0)]; exact mgF_head T cA comp N K i
    have h := ((mg_stand X cA comp N K i).pushed (mgR comp K)).stored hc i (.ref (T.heap.size + 1 + i))
    rw [mgC_next, show (mgR comp K).slots.size = K from arrV_size _ _ _] at h
    rw [List.range_succ, List.map_append, ← List.append_assoc, show slots + N + (i + 1) * K = slots + N + i * K + K by rw [Nat.succ_mul]; omega]
    exact h
end MG
section MGW
variable {E : CtlPost} {e : Env} {d : Bool} {acts : List Action} {s : State}
/-- a row of default values comes -/
theorem mg_new {c comp : ClassId} {k : Class} {ty : FieldType} {len : Nat} {v : Value} {f : Nat → Value} (hk : s.vm.classes[c]? = some k) (hkind : k.kind = .array comp ty) (hl : len ≤ e.platform.arrayLengthLimit) (hh : len * componentBytes ty ≤ e.platform.maxHeapBytes) (hfit : fits ty v = true) (hdef : v.isDefault = true) (hf : f = fun _ => v) {Q : Addr → Pre} (h1 : s.heap.size < e.platform.maxCells) (h2 : s.slotsUsed + len ≤ e.platform.maxSlots) (hq : Q s.heap.size d acts (s.pushCell (arrV c len f))) : wp (Jvm.newArray c len v) Q E e d acts s := by
  subst hf
  have hsl : ∀ i x, (Array.replicate len v)[i]? = some x → s.fitsSlot c .none i x = true := fun i x hx => by
    rw [Array.getElem?_replicate] at hx
    split at hx
    · cases hx; simp [State.fitsSlot, State.slotType?, hk, hkind, hfit]
    · cases hx
  have hac : allocActs (Array.replicate len v) s.heap.size acts = acts := by
    unfold allocActs
    rw [if_pos]
    rw [Array.all_replicate]
    split <;> simp [hdef]
  have hl' : ¬ len > e.platform.arrayLengthLimit := by omega
  have hh' : ¬ len * componentBytes ty > e.platform.maxHeapBytes := by omega
  simp only [Jvm.newArray, Jvm.arrayFits, wp_bind', W.ask, W.ite, hl', if_false, wp_pure', W.theClass, hk, hkind, hh', W.alloc, W.stop, Option.some.injEq, exists_eq_left', Array.size_replicate, hac]
  rw [if_neg (by omega)]
  rw [← arrV_new] at hq
  exact ⟨h1, h2, hsl, hq⟩
theorem mg_make {c comp cc : ClassId} {kA kC : Class} {n k : Int32} (hA : s.vm.classes[c]? = some kA) (hkA : kA.kind = .array comp (.array .int)) (hC : s.vm.classes[comp]? = some kC) (hkC : kC.kind = .array cc .int) (hn : ¬ n < 0) (hk : ¬ k < 0) (hl1 : n.toNatClampNeg ≤ e.platform.arrayLengthLimit) (hh1 : n.toNatClampNeg * 4 ≤ e.platform.maxHeapBytes) (hl2 : k.toNatClampNeg ≤ e.platform.arrayLengthLimit) (hh2 : k.toNatClampNeg * 4 ≤ e.platform.maxHeapBytes)
    (hc : s.heap.size + 1 + n.toNatClampNeg ≤ e.platform.maxCells) (hs : s.slotsUsed + n.toNatClampNeg + n.toNatClampNeg * k.toNatClampNeg ≤ e.platform.maxSlots) {Q : Addr → Pre} (hq : ∀ d' acts', Q s.heap.size d' acts' (mgF s c comp n.toNatClampNeg k.toNatClampNeg n.toNatClampNeg)) : wp (multianewarray.make c [n, k]) Q E e d acts s := by
  rw [multianewarray.make]
  simp only [wp_bind', W.ite, hn, if_false, wp_pure', W.theClass, hA, hkA, Option.some.injEq, exists_eq_left']
  refine mg_new (f := fun j => va_rf (if j < 0 then some (s.heap.size + 1 + j) else none)) hA hkA hl1 hh1 rfl rfl (funext fun j => by simp [va_rf]) (by omega) (by have := Nat.zero_le (n.toNatClampNeg * k.toNatClampNeg); omega) ?_
  have hno : ([k].find? (· < 0)) = none := by simp [hk]
  simp only [hno]
  rw [ite_self, wp_bind', Std.Legacy.Range.forIn_eq_forIn_range']
  rw [show ([:n.toNatClampNeg] : Std.Legacy.Range).size = n.toNatClampNeg by simp [Std.Legacy.Range.size]]
  refine wp_forIn_inv (fun rest s' => ∃ i, i ≤ n.toNatClampNeg ∧ rest = List.range' i (n.toNatClampNeg - i) ∧ s' = mgF s c comp n.toNatClampNeg k.toNatClampNeg i) _ _ ⟨0, Nat.zero_le _, rfl, rfl⟩ ?_ ?_
  · rintro x rest s' d' acts' Q' ⟨i, hi, hr, rfl⟩ hnext
    have hlt : i < n.toNatClampNeg := by
      by_cases h : i < n.toNatClampNeg
      · exact h
      · rw [show n.toNatClampNeg - i = 0 by omega] at hr
        cases hr
    rw [show n.toNatClampNeg - i = (n.toNatClampNeg - (i + 1)) + 1 by omega, List.range'_succ] at hr
    obtain ⟨rfl, hrest⟩ := List.cons.inj hr
    have hz := mgF_size s c comp n.toNatClampNeg k.toNatClampNeg x
    have hu := mgF_used s c comp n.toNatClampNeg k.toNatClampNeg x
    have hv := mgF_vm s c comp n.toNatClampNeg k.toNatClampNeg x
    have hmul : x * k.toNatClampNeg + k.toNatClampNeg ≤ n.toNatClampNeg * k.toNatClampNeg := by
      have h := Nat.mul_le_mul_right k.toNatClampNeg (show x + 1 ≤ n.toNatClampNeg from hlt)
      rw [Nat.succ_mul] at h
      exact h
    simp only [wp_bind']
    rw [multianewarray.make]
    simp only [wp_bind', W.ite, hk, if_false, wp_pure', W.theClass, hv, hC, hkC, Option.some.injEq, exists_eq_left']
    refine mg_new (f := fun _ => .int 0) (by rw [hv]; exact hC) hkC hl2 hh2 rfl rfl rfl (by rw [hz]; omega) (by rw [hu]; omega) ?_
    have h0 : s.heap.size < (mgF s c comp n.toNatClampNeg k.toNatClampNeg x).heap.size := by rw [hz]; omega
    simp only [wp_bind', W.writeLoc, wp_pure']
    refine ⟨mgC c n.toNatClampNeg s.heap.size x, by rw [State.heap_pushCell_of_lt (h := h0)]; exact mgF_head s c comp _ _ x, by simp [mgC, arrV], by rw [show (mgC c n.toNatClampNeg s.heap.size x).slots.size = n.toNatClampNeg from arrV_size _ _ _]; exact hlt, ?_, hnext _ _ _ ⟨x + 1, hlt, hrest, ?_⟩⟩
    · simp [State.fitsSlot, State.slotType?, hv, hA, hkA, mgC, arrV, fits]
    · rw [hz, mgC_next]; rfl
  · rintro s' d' acts' ⟨i, hi, hr, rfl⟩
    have hiN : i = n.toNatClampNeg := by
      by_cases h : i < n.toNatClampNeg
      · rw [show n.toNatClampNeg - i = (n.toNatClampNeg - (i + 1)) + 1 by omega, List.range'_succ] at hr
        cases hr
      · omega
    subst hiN
    simp only [wp_pure']
    exact hq _ _
end MGW
/-- what the tables say of int[][] and int[] -/
def mgK (cA comp : ClassId) (U : State) : Prop := ∃ (kA kC : Class) (cc : ClassId), U.vm.findClass "[[I" = some cA ∧ U.vm.classes[cA]? = some kA ∧ kA.kind = .array comp (.array .int) ∧ U.vm.classes[comp]? = some kC ∧ kC.kind = .array cc .int
theorem mgK.moved {cA comp : ClassId} {u U : State} (hv : u.vm.Alike U.vm) (h : mgK cA comp u) : mgK cA comp U := by
  obtain ⟨kA, kC, cc, h1, h2, h3, h4, h5⟩ := h
  obtain ⟨kA', a1, a2⟩ := hv.2.2 _ _ h2
  obtain ⟨kC', b1, b2⟩ := hv.2.2 _ _ h4
  exact ⟨kA', kC', cc, by rw [hv.findClass]; exact h1, a1, by rw [a2]; exact h3, b1, by rw [b2]; exact h5⟩
section MGS
variable {p : Program} {l : Launch} {e : Env} {R : Room} {s : State} {m : MethodId} {args : Array Value} {below : List Frame} {meth : Method} {c : Code} {T : State} {locs : List Loc} {cells slots : Nat}
theorem mg_step (X : Stand p l e R s m args below meth c T locs cells slots) (hexec : p.tables.exec = Jvm.exec) {own : String} {index : Nat} (hown : s.vm.findClass own = some m.cls) (hlink : (Cond.classLink own index "[[I").before args s = true) {cA comp : ClassId} (hK : mgK cA comp s)
    {g : JFrame} (hg : g.method = m) (hdg : decode c.code g.pc = .ok (.multianewarray index 2, 4)) {n k : Int32} {rest : List Value} (hstack : g.stack = .int k :: .int n :: rest) (hn : ¬ n < 0) (hk : ¬ k < 0) (hb1 : n.toNatClampNeg ≤ 100000) (hb2 : k.toNatClampNeg ≤ 100000) (hcells : cells + (1 + n.toNatClampNeg) ≤ R.cells) (hslots : slots + (n.toNatClampNeg + n.toNatClampNeg * k.toNatClampNeg) ≤ R.slots) :
    ∃ vm₁ : Vm, Stand p l e R s m args below meth c (mgF (T.setVm vm₁) cA comp n.toNatClampNeg k.toNatClampNeg n.toNatClampNeg) locs (cells + 1 + n.toNatClampNeg) (slots + n.toNatClampNeg + n.toNatClampNeg * k.toNatClampNeg) ∧
      ∀ target, Steps p.tables e below ((mgF (T.setVm vm₁) cA comp n.toNatClampNeg k.toNatClampNeg n.toNatClampNeg).setTop { g with pc := g.pc + 4, stack := .ref T.heap.size :: rest }) target → Steps p.tables e below (T.setTop g) target := by
  subst hg
  obtain ⟨c0, hfc0, hcl⟩ := Cond.classLink_spec hown hlink e.platform (by rw [X.admits.platform])
  have hfA : s.vm.findClass "[[I" = some cA := hK.choose_spec.choose_spec.choose_spec.1
  cases hfA.symm.trans hfc0
  obtain ⟨hg₁, hwarm₁, hready₁⟩ := State.classEntry (e := e) X.warmed hcl
  generalize T.vm.noted g.method.cls index (.cls cA) = vm₁ at hg₁ hwarm₁ hready₁
  obtain ⟨kA, kC, cc, -, hA0, hkA, hC0, hkC⟩ := mgK.moved (U := T.setVm vm₁) hwarm₁.alike hK
  have hA : vm₁.classes[cA]? = some kA := hA0
  have hC : vm₁.classes[comp]? = some kC := hC0
  obtain ⟨hr1, hr2⟩ := X.roomAbove hcells hslots
  have XF := mg_stand (X.noted hwarm₁) cA comp n.toNatClampNeg k.toNatClampNeg n.toNatClampNeg
  have XG : Stand p l e R s g.method args below meth c (mgF (T.setVm vm₁) cA comp n.toNatClampNeg k.toNatClampNeg n.toNatClampNeg) locs (cells + 1 + n.toNatClampNeg) (slots + n.toNatClampNeg + n.toNatClampNeg * k.toNatClampNeg) := XF.dropFresh (fun x hx => by
    obtain ⟨j, -, rfl⟩ := List.mem_map.mp hx
    exact X.heapGrown)
  refine ⟨vm₁, XG, fun target hrest => ?_⟩
  have hlim := Launch.admits_arrayLengthLimit X.admits
  have hbyt := Launch.admits_maxHeapBytes X.admits
  jvm_step X.here [hexec, hdg]
  simp only [multianewarray.sem, wp_bind', W.resolveClassAt_links (State.method?_setTop g X.here.top) hg₁]
  rw [W.popN, if_neg (by decide)]
  refine ⟨g, State.topJava?_setTop' (s := T.setVm vm₁) g X.here.top, [.int n, .int k], rest, rfl, hstack, ?_⟩
  simp only [List.mapM_cons, List.mapM_nil, wp_bind', wp_pure']
  refine mg_make (kA := kA) (kC := kC) (comp := comp) (cc := cc) hA hkA hC hkC hn hk (by rw [hlim]; omega) (by rw [hbyt]; omega) (by rw [hlim]; omega) (by rw [hbyt]; omega) (by show T.heap.size + 1 + _ ≤ _; omega) (by show T.slotsUsed + _ + _ ≤ _; omega) (fun d' acts' => ?_)
  have eS : ((T.setTop g).setVm vm₁).setTop { g with stack := rest } = (T.setVm vm₁).setTop { g with stack := rest } := by
    show ((T.setVm vm₁).setTop g).setTop _ = _
    rw [State.setTop_setTop]
  rw [eS, mgF_top]
  simp only [wp_bind', W.mark, W.pushRef, State.topJava?_setTop' _ XF.here.top, Option.some.injEq, exists_eq_left', State.setTop_setTop, State.heap_setTop]
  intro acts
  simp [jvm, XF.here.top]
  exact hrest
end MGS
end
section
/-! THE CLAIM OUT OF ONE WALK OF THE LAW'S BODY. Your part is whole_start (and what it stands on); all else here is the same for every law, but numbers. -/
def R_law : String := "HalfDropLaw"
def lw_P (b : Addr) (xs : List Int32) (args : Array Value) (s : State) : Prop := args = #[.ref b] ∧ s.IntsAt b xs ∧ xs.length ≤ 6 ∧ (Jvm.Cond.and given_1 narrow_1).before args s = true
def lw_Q (_ : Array Value) (s : State) (o : Outcome) (t : State) : Prop := o = .returned (some (.int 1)) ∧ Framed s o t [] 600000 7302250
def lw_Z (below : List Frame) (a : Array Value) (s : State) : State → Prop := fun t => ∃ o, t.status = .running ∧ Ended t below o ∧ lw_Q a s o t
/-- the law's own end, with 1 on the stack, nothing written that was there before, its room as the claim has it -/
theorem lw_ret {p : Program} {l : Launch} {e : Env} {s : State} {m : MethodId} {below : List Frame} {meth : Method} {c : Code} {b : Nat} (hx : p.tables.exec = Jvm.exec) (hb : c.code = code) (hr : meth.sig.returnType = ret) (hlocks : meth.locks = false) {pc : Nat} {H : Heap} {ls : Array Slot} (hdg : decode code pc = .ok (.ireturn, 1)) : W p l e room_1 s m #[Value.ref b] below meth c H [] 600000 7302250 (lw_Z below #[Value.ref b] s) (F0 m pc ls [.int 1]) := by
  intro T hT X
  obtain ⟨fs, hret, hrun, hended, hW, hframe⟩ := X.leave (v := some (.int 1)) (hlocks := hlocks) (fun h => by rw [hr] at h; cases h)
  have hmeth' : T.vm.method? m = some meth := X.method'
  refine ⟨T.setFrames fs, ?_, .returned (some (.int 1)), hrun, hended, rfl, ⟨_, rfl⟩, hW, hframe⟩
  jvm_step X.here [X.here.top, hx, hb, hdg, hmeth', hr, ret, narrow_b1]
  (try refine ⟨rfl, ?_⟩); (try refine ⟨rfl, ?_⟩)
  first | (intro acts; rw [hret _ acts rfl rfl rfl]) | rw [hret _ _ rfl rfl rfl]
  exact Steps.refl _
/-- what holds at the law's entry: the machine, the code, the tables' words (any of lw_tbl by 'hts w (by decide +kernel)'), the script of L ints xs at the cell b, what the Statement gives of the start (any of its parts by flat_of_before) -/
def lw_At (p : Program) (s : State) (m : MethodId) (meth : Method) (c : Code) (b L : Nat) (xs : Nat → Int32) : Prop :=
  p.tables.exec = Jvm.exec ∧ c.code = code ∧ meth.sig.returnType = ret ∧ c.maxLocals = 4 ∧ s.vm.findClass R_law = some m.cls ∧ (∀ w ∈ lw_tbl, w.before #[Value.ref b] s = true) ∧ va_X b L xs s s.heap ∧ b < s.heap.size ∧ meth.locks = false ∧ (Jvm.Cond.and given_1 narrow_1).before #[Value.ref b] s = true
end
section
/-! ===== my own layer: one list of words, one context, one judgement over lists ===== -/
/-- what all contracts are about: the classes' numbers and slots, array classes, the String constants and their byte rows -/
abbrev gZ : Type := va_G × (Nat → ClassId) × (Nat → Nat) × (Nat → Nat)
abbrev gTy (cs : Nat → ClassId) : List (ClassId × FieldType) := [(cs 0, .int), (cs 1, .byte), (cs 2, .boolean), (cs 3, .object "HalfDrop$Room"), (cs 4, .object "HalfDrop$Paper"), (cs 5, .object "HalfDrop$State"), (cs 6, .array .int), (cs 7, .object "java/lang/String")]
/-- the links between nest mates -/
def gNest : List (String × Nat × MethodName) := [(RX6, 57, yX11_isFrom), (RX9, 30, yX11_isFrom), (RX0, 20, yX11_isFrom), (RX6, 77, yX11_rest), (RX2, 154, yX11_isFrom), (RX3, 38, yX11_rest), (RX8, 37, yX11_isFrom), (RX3, 30, yX11_isFrom), (RX4, 123, yX11_isFrom), (RX10, 62, yX11_isFrom), (RX3, 34, yX11_cutUp), (RX1, 44, yX11_rest), (RX2, 96, yX11_rest), (RX7, 40, yX11_isFrom), (RX1, 111, yX11_isFrom)]
/-- the String constants: class, entry, text, which of the five -/
def gStr : List (String × Nat × String × Nat) := [(RX12, 72, "wall", 0), (RX12, 74, "door", 1), (RX12, 76, "window", 2), (RX12, 78, "lean", 3), (RX12, 79, "stand", 4)]
def gLen : List Nat := [4, 4, 6, 4, 5]
def gByt : List (List Int32) := [[119, 97, 108, 108], [100, 111, 111, 114], [119, 105, 110, 100, 111, 119], [108, 101, 97, 110], [115, 116, 97, 110, 100]]
/-- what the tables say at a state, the same at every one -/
def gK (Z : gZ) (U : State) : Prop := va_K Z.1 vwCl (gTy Z.2.1) U ∧ (∀ q ∈ gNest, va_Nw (.methodLinkNest q.1 q.2.1 q.2.2 "HalfDrop") U) ∧ (va_AO "HalfDrop$Room" U ∧ va_AO "HalfDrop$Paper" U ∧ va_AO "HalfDrop$State" U ∧ va_AO "java/lang/String" U ∧ mgK (Z.2.1 6) (Z.2.1 0) U) ∧ (∀ q ∈ gStr, vk_R q.1 q.2.1 q.2.2.1 (Z.2.2.1 q.2.2.2) U)
theorem gK.warm {Z : gZ} {s U : State} (hW : s.WarmedH U.vm) (h : gK Z s) : gK Z U := ⟨va_K.moved hW.alike h.1, fun q hq => va_Nw.warmM hW (h.2.1 q hq), ⟨va_AO.moved hW.alike h.2.2.1.1, va_AO.moved hW.alike h.2.2.1.2.1, va_AO.moved hW.alike h.2.2.1.2.2.1, va_AO.moved hW.alike h.2.2.1.2.2.2.1, mgK.moved hW.alike h.2.2.1.2.2.2.2⟩, fun q hq => vk_R.warm hW (h.2.2.2 q hq)⟩
theorem gK.same {Z : gZ} {u U : State} (hv : u.vm = U.vm) (h : gK Z u) : gK Z U := ⟨va_K.moved (by rw [hv]; exact Vm.Alike.refl U.vm) h.1, fun q hq => va_Nw.same rfl hv (h.2.1 q hq), ⟨va_AO.moved (by rw [hv]; exact Vm.Alike.refl U.vm) h.2.2.1.1, va_AO.moved (by rw [hv]; exact Vm.Alike.refl U.vm) h.2.2.1.2.1, va_AO.moved (by rw [hv]; exact Vm.Alike.refl U.vm) h.2.2.1.2.2.1, va_AO.moved (by rw [hv]; exact Vm.Alike.refl U.vm) h.2.2.1.2.2.2.1, mgK.moved (by rw [hv]; exact Vm.Alike.refl U.vm) h.2.2.1.2.2.2.2⟩, fun q hq => vk_R.same hv.symm (h.2.2.2 q hq)⟩
/-- the String constants' cells lie as they lay, outside A -/
def gS (Z : gZ) (A : Nat → Prop) (U : State) (H : Heap) : Prop := vk_S 5 gLen gByt Z.2.2.1 Z.2.2.2 A U H
theorem gGood {y : MethodName} {cc : ByteArray} {n : Nat} {r : Option FieldType} (h : Cond.code y cc n r ∈ wU) : GoodIn wU (Cond.code y cc n r :: wU) := fun w hw => by
  rcases List.mem_cons.mp hw with rfl | hw
  · exact ⟨h, (gU _ h).2⟩
  · exact ⟨hw, (gU _ hw).2⟩
/-- a contract: from the world w, with the arguments as, the method comes back with r and a world w' that Po says; new cells apart, nothing outside w changes -/
def gPre (Z : gZ) (as : List Value) (w : va_W) (sz : Nat) (v : Array Value) (U : State) : Prop := v = as.toArray ∧ U.heap.size = sz ∧ va_P Z.1 vwCl w U.heap ∧ gK Z U ∧ gS Z (va_A w sz) U U.heap ∧ va_D (fun _ => True) w
def gPost (Z : gZ) (w : va_W) (sz : Nat) (Po : Option Value → va_W → Prop) (_ : Array Value) (st : State) (oc : Outcome) (t : State) : Prop := (∃ (r : Option Value) (w' : va_W), oc = .returned r ∧ Po r w' ∧ va_P Z.1 vwCl w' t.heap ∧ va_D (va_A w sz) w') ∧ va_F (va_A w sz) st t
def Con (l : Launch) (Z : gZ) (y : MethodName) (cc : ByteArray) (nL : Nat) (ret : Option FieldType) (fr lo mc ms : Nat) (as : List Value) (w : va_W) (Po : Option Value → va_W → Prop) : Prop :=
  ∀ sz : Nat, Met l y (Cond.code y cc nL ret :: wU) { frames := fr, cells := mc, slots := ms, locals := lo } (gPre Z as w sz) (gPost Z w sz Po) mc ms (va_A w sz)
/-- what holds all along a method's walk -/
def Cx (p : Program) (s : State) (m : MethodId) (args : Array Value) (meth : Method) (c : Code) (cc : ByteArray) (nL : Nat) (ret : Option FieldType) (own : String) (Z : gZ) (A : Nat → Prop) : Prop :=
  p.tables.exec = Jvm.exec ∧ c.code = cc ∧ meth.sig.returnType = ret ∧ c.maxLocals = nL ∧ s.vm.findClass own = some m.cls ∧ (∀ w ∈ wU, w.before args s = true) ∧ gK Z s ∧ gS Z A s s.heap ∧ meth.locks = false ∧ (∀ q, s.heap.size ≤ q → A q)
/-- the judgement: from every heap that holds the world ws, with locals lv and stack st at pc -/
def Gs (p : Program) (l : Launch) (e : Env) (R : Room) (s : State) (m : MethodId) (args : Array Value) (below : List Frame) (meth : Method) (c : Code) (Q : State → Prop) (Z : gZ) (A : Nat → Prop) (nL : Nat) (k n pc : Nat) (lv : List (Nat × Value)) (st : List Value) (ws : va_W) : Prop :=
  ∀ (H : Heap) (locs : List Loc) (ls : Array Slot), va_P Z.1 vwCl ws H → va_D A ws → va_S A s.heap H locs → lv_has ls nL lv → W p l e R s m args below meth c H locs k n Q (F0 m pc ls st)
theorem gPw {D : va_G} {cl : List vw_C} {ws w : va_W} {H : Heap} (hP : va_P D cl ws H) (is : List Nat) (h : is.map (fun i => ws[i]?) = w.map some) : va_P D cl w H := fun a q hq => by
  have h1 : (is.map (fun i => ws[i]?))[a]? = some (some q) := by rw [h, List.getElem?_map, hq]; rfl
  rw [List.getElem?_map] at h1
  cases hi : is[a]? with
  | none => rw [hi] at h1; cases h1
  | some i =>
    rw [hi] at h1
    exact hP i q (Option.some.inj h1)
section GROWS
variable {p : Program} {l : Launch} {e : Env} {R : Room} {s : State} {m : MethodId} {args : Array Value} {below : List Frame} {meth : Method} {c : Code} {Q : State → Prop} {Z : gZ} {A : Nat → Prop} {nL k n pc : Nat} {lv : List (Nat × Value)} {st : List Value} {ws : va_W} {cc : ByteArray} {ret : Option FieldType} {own : String}
theorem Cx.ex (X : Cx p s m args meth c cc nL ret own Z A) : p.tables.exec = Jvm.exec := X.1
theorem Cx.by' (X : Cx p s m args meth c cc nL ret own Z A) : c.code = cc := X.2.1
theorem Cx.re (X : Cx p s m args meth c cc nL ret own Z A) : meth.sig.returnType = ret := X.2.2.1
theorem Cx.ml (X : Cx p s m args meth c cc nL ret own Z A) : c.maxLocals = nL := X.2.2.2.1
theorem Cx.ow (X : Cx p s m args meth c cc nL ret own Z A) : s.vm.findClass own = some m.cls := X.2.2.2.2.1
theorem Cx.ts (X : Cx p s m args meth c cc nL ret own Z A) : ∀ w ∈ wU, w.before args s = true := X.2.2.2.2.2.1
theorem Cx.gk (X : Cx p s m args meth c cc nL ret own Z A) : gK Z s := X.2.2.2.2.2.2.1
theorem Cx.ka (X : Cx p s m args meth c cc nL ret own Z A) : va_K Z.1 vwCl (gTy Z.2.1) s := X.2.2.2.2.2.2.1.1
theorem Cx.gs (X : Cx p s m args meth c cc nL ret own Z A) : gS Z A s s.heap := X.2.2.2.2.2.2.2.1
theorem Cx.lk (X : Cx p s m args meth c cc nL ret own Z A) : meth.locks = false := X.2.2.2.2.2.2.2.2.1
theorem Cx.ha (X : Cx p s m args meth c cc nL ret own Z A) : ∀ q, s.heap.size ≤ q → A q := X.2.2.2.2.2.2.2.2.2
theorem g_widen {k' n' : Nat} (h1 : k ≤ k') (h2 : n ≤ n') (kk : Gs p l e R s m args below meth c Q Z A nL k' n' pc lv st ws) : Gs p l e R s m args below meth c Q Z A nL k n pc lv st ws := fun H locs ls hP hD hS hl => W.widen h1 h2 (kk H locs ls hP hD hS hl)
/-- the same state in other words -/
theorem g_as {pc' : Nat} {lv' : List (Nat × Value)} {st' : List Value} {ws' : va_W} (h1 : pc = pc') (h2 : lv = lv') (h3 : st = st') (h4 : ws = ws') (kk : Gs p l e R s m args below meth c Q Z A nL k n pc' lv' st' ws') : Gs p l e R s m args below meth c Q Z A nL k n pc lv st ws := by subst h1; subst h2; subst h3; subst h4; exact kk
theorem g_lv {lv' : List (Nat × Value)} (ks : List Nat) (h : lv_pick lv ks = lv') (kk : Gs p l e R s m args below meth c Q Z A nL k n pc lv' st ws) : Gs p l e R s m args below meth c Q Z A nL k n pc lv st ws := fun H locs ls hP hD hS hl => kk H locs ls hP hD hS (lv_sub hl ks h)
/-- fewer cells, in any order -/
theorem g_ws {ws' : va_W} (is : List Nat) (hn : va_nd is = true) (h : is.map (fun i => ws[i]?) = ws'.map some) (kk : Gs p l e R s m args below meth c Q Z A nL k n pc lv st ws') : Gs p l e R s m args below meth c Q Z A nL k n pc lv st ws := fun H locs ls hP hD hS hl => kk H locs ls (gPw hP is h) (hD.sub is hn h) hS hl
theorem g_iload (X : Cx p s m args meth c cc nL ret own Z A) {i : Nat} {x : Int32} (j : Nat) (hj : lv[j]? = some (i, .int x)) (hd : decode cc pc = .ok (.iload i, 2)) (kk : Gs p l e R s m args below meth c Q Z A nL k n (pc + 2) lv (.int x :: st) ws) : Gs p l e R s m args below meth c Q Z A nL k n pc lv st ws := fun H locs ls hP hD hS hl => lv_iload X.ex X.by' hd (lv_at hl j hj) (kk H locs ls hP hD hS hl)
theorem g_iload_n (X : Cx p s m args meth c cc nL ret own Z A) {f : Fin 4} {x : Int32} (j : Nat) (hj : lv[j]? = some ((f : Nat), .int x)) (hd : decode cc pc = .ok (.iload_n f, 1)) (kk : Gs p l e R s m args below meth c Q Z A nL k n (pc + 1) lv (.int x :: st) ws) : Gs p l e R s m args below meth c Q Z A nL k n pc lv st ws := fun H locs ls hP hD hS hl => lv_iload_n X.ex X.by' hd rfl (lv_at hl j hj) (kk H locs ls hP hD hS hl)
theorem g_aload (X : Cx p s m args meth c cc nL ret own Z A) {i : Nat} {x : Nat} (j : Nat) (hj : lv[j]? = some (i, .ref x)) (hd : decode cc pc = .ok (.aload i, 2)) (kk : Gs p l e R s m args below meth c Q Z A nL k n (pc + 2) lv (.ref x :: st) ws) : Gs p l e R s m args below meth c Q Z A nL k n pc lv st ws := fun H locs ls hP hD hS hl => lv_aload X.ex X.by' hd (lv_at hl j hj) (kk H locs ls hP hD hS hl)
theorem g_aload_n (X : Cx p s m args meth c cc nL ret own Z A) {f : Fin 4} {x : Nat} (j : Nat) (hj : lv[j]? = some ((f : Nat), .ref x)) (hd : decode cc pc = .ok (.aload_n f, 1)) (kk : Gs p l e R s m args below meth c Q Z A nL k n (pc + 1) lv (.ref x :: st) ws) : Gs p l e R s m args below meth c Q Z A nL k n pc lv st ws := fun H locs ls hP hD hS hl => lv_aload_n X.ex X.by' hd rfl (lv_at hl j hj) (kk H locs ls hP hD hS hl)
theorem g_lload (X : Cx p s m args meth c cc nL ret own Z A) {i : Nat} {x : Int64} (j : Nat) (hj : lv[j]? = some (i, .long x)) (hd : decode cc pc = .ok (.lload i, 2)) (kk : Gs p l e R s m args below meth c Q Z A nL k n (pc + 2) lv (.long x :: st) ws) : Gs p l e R s m args below meth c Q Z A nL k n pc lv st ws := fun H locs ls hP hD hS hl => lv_lload X.ex X.by' hd (lv_at hl j hj) (kk H locs ls hP hD hS hl)
theorem g_lload_n (X : Cx p s m args meth c cc nL ret own Z A) {f : Fin 4} {x : Int64} (j : Nat) (hj : lv[j]? = some ((f : Nat), .long x)) (hd : decode cc pc = .ok (.lload_n f, 1)) (kk : Gs p l e R s m args below meth c Q Z A nL k n (pc + 1) lv (.long x :: st) ws) : Gs p l e R s m args below meth c Q Z A nL k n pc lv st ws := fun H locs ls hP hD hS hl => lv_lload_n X.ex X.by' hd rfl (lv_at hl j hj) (kk H locs ls hP hD hS hl)
theorem g_istore (X : Cx p s m args meth c cc nL ret own Z A) {i : Nat} {x : Int32} {lv' : List (Nat × Value)} (hn : i < nL) (hl : (i, Value.int x) :: lv.filter (fun q => !(q.1 == i) && !(q.1 + 1 == i && q.2.category == 2)) = lv') (hd : decode cc pc = .ok (.istore i, 2)) (kk : Gs p l e R s m args below meth c Q Z A nL k n (pc + 2) lv' st ws) : Gs p l e R s m args below meth c Q Z A nL k n pc lv (.int x :: st) ws := fun H locs ls hP hD hS hL => lv_istore X.ex X.by' hd hL hn hl (fun ls' h => kk H locs ls' hP hD hS h)
theorem g_istore_n (X : Cx p s m args meth c cc nL ret own Z A) {f : Fin 4} {i : Nat} {x : Int32} {lv' : List (Nat × Value)} (hi : (f : Nat) = i) (hn : i < nL) (hl : (i, Value.int x) :: lv.filter (fun q => !(q.1 == i) && !(q.1 + 1 == i && q.2.category == 2)) = lv') (hd : decode cc pc = .ok (.istore_n f, 1)) (kk : Gs p l e R s m args below meth c Q Z A nL k n (pc + 1) lv' st ws) : Gs p l e R s m args below meth c Q Z A nL k n pc lv (.int x :: st) ws := fun H locs ls hP hD hS hL => lv_istore_n X.ex X.by' hd hi hL hn hl (fun ls' h => kk H locs ls' hP hD hS h)
theorem g_astore (X : Cx p s m args meth c cc nL ret own Z A) {i : Nat} {x : Nat} {lv' : List (Nat × Value)} (hn : i < nL) (hl : (i, Value.ref x) :: lv.filter (fun q => !(q.1 == i) && !(q.1 + 1 == i && q.2.category == 2)) = lv') (hd : decode cc pc = .ok (.astore i, 2)) (kk : Gs p l e R s m args below meth c Q Z A nL k n (pc + 2) lv' st ws) : Gs p l e R s m args below meth c Q Z A nL k n pc lv (.ref x :: st) ws := fun H locs ls hP hD hS hL => lv_astore X.ex X.by' hd hL hn hl (fun ls' h => kk H locs ls' hP hD hS h)
theorem g_astore_n (X : Cx p s m args meth c cc nL ret own Z A) {f : Fin 4} {i : Nat} {x : Nat} {lv' : List (Nat × Value)} (hi : (f : Nat) = i) (hn : i < nL) (hl : (i, Value.ref x) :: lv.filter (fun q => !(q.1 == i) && !(q.1 + 1 == i && q.2.category == 2)) = lv') (hd : decode cc pc = .ok (.astore_n f, 1)) (kk : Gs p l e R s m args below meth c Q Z A nL k n (pc + 1) lv' st ws) : Gs p l e R s m args below meth c Q Z A nL k n pc lv (.ref x :: st) ws := fun H locs ls hP hD hS hL => lv_astore_n X.ex X.by' hd hi hL hn hl (fun ls' h => kk H locs ls' hP hD hS h)
theorem g_iinc (X : Cx p s m args meth c cc nL ret own Z A) {i : Nat} {d : Int} {x v : Int32} {lv' : List (Nat × Value)} (j : Nat) (hj : lv[j]? = some (i, .int x)) (hv : x + Int32.ofInt d = v) (hn : i < nL) (hl : (i, Value.int v) :: lv.filter (fun q => !(q.1 == i) && !(q.1 + 1 == i && q.2.category == 2)) = lv') (hd : decode cc pc = .ok (.iinc i d, 3)) (kk : Gs p l e R s m args below meth c Q Z A nL k n (pc + 3) lv' st ws) : Gs p l e R s m args below meth c Q Z A nL k n pc lv st ws := fun H locs ls hP hD hS hL => lv_iinc X.ex X.by' hd hL hj hv hn hl (fun ls' h => kk H locs ls' hP hD hS h)
theorem g_iconst (X : Cx p s m args meth c cc nL ret own Z A) {d : Int} (v : Int32) (hv : Int32.ofInt d = v) (hd : decode cc pc = .ok (.iconst d, 1)) (kk : Gs p l e R s m args below meth c Q Z A nL k n (pc + 1) lv (.int v :: st) ws) : Gs p l e R s m args below meth c Q Z A nL k n pc lv st ws := fun H locs ls hP hD hS hl => lv_iconst X.ex X.by' hd hv (kk H locs ls hP hD hS hl)
theorem g_bipush (X : Cx p s m args meth c cc nL ret own Z A) {d : Int} (v : Int32) (hv : (Int8.ofInt d).toInt32 = v) (hd : decode cc pc = .ok (.bipush d, 2)) (kk : Gs p l e R s m args below meth c Q Z A nL k n (pc + 2) lv (.int v :: st) ws) : Gs p l e R s m args below meth c Q Z A nL k n pc lv st ws := fun H locs ls hP hD hS hl => lv_bipush X.ex X.by' hd hv (kk H locs ls hP hD hS hl)
theorem g_sipush (X : Cx p s m args meth c cc nL ret own Z A) {d : Int} (v : Int32) (hv : (Int16.ofInt d).toInt32 = v) (hd : decode cc pc = .ok (.sipush d, 3)) (kk : Gs p l e R s m args below meth c Q Z A nL k n (pc + 3) lv (.int v :: st) ws) : Gs p l e R s m args below meth c Q Z A nL k n pc lv st ws := fun H locs ls hP hD hS hl => lv_sipush X.ex X.by' hd hv (kk H locs ls hP hD hS hl)
theorem g_ldc (X : Cx p s m args meth c cc nL ret own Z A) {i : Nat} {v : Int32} (hc : Cond.constant own i v ∈ wU) (hd : decode cc pc = .ok (.ldc i, 2)) (kk : Gs p l e R s m args below meth c Q Z A nL k n (pc + 2) lv (.int v :: st) ws) : Gs p l e R s m args below meth c Q Z A nL k n pc lv st ws := fun H locs ls hP hD hS hl => lv_ldc X.ex X.by' X.ow (X.ts _ hc) hd (kk H locs ls hP hD hS hl)
theorem g_ldcw (X : Cx p s m args meth c cc nL ret own Z A) {i : Nat} {v : Int32} (hc : Cond.constant own i v ∈ wU) (hd : decode cc pc = .ok (.ldc_w i, 3)) (kk : Gs p l e R s m args below meth c Q Z A nL k n (pc + 3) lv (.int v :: st) ws) : Gs p l e R s m args below meth c Q Z A nL k n pc lv st ws := fun H locs ls hP hD hS hl => lv_ldcw X.ex X.by' X.ow (X.ts _ hc) hd (kk H locs ls hP hD hS hl)
theorem g_ldc2 (X : Cx p s m args meth c cc nL ret own Z A) {i : Nat} {v : Int64} (hc : Cond.constantLong own i v ∈ wU) (hd : decode cc pc = .ok (.ldc2_w i, 3)) (kk : Gs p l e R s m args below meth c Q Z A nL k n (pc + 3) lv (.long v :: st) ws) : Gs p l e R s m args below meth c Q Z A nL k n pc lv st ws := fun H locs ls hP hD hS hl => lv_ldc2 X.ex X.by' X.ow (X.ts _ hc) hd (kk H locs ls hP hD hS hl)
theorem g_lconst (X : Cx p s m args meth c cc nL ret own Z A) {f : Fin 2} (v : Int64) (hv : Int64.ofNat (f : Nat) = v) (hd : decode cc pc = .ok (.lconst f, 1)) (kk : Gs p l e R s m args below meth c Q Z A nL k n (pc + 1) lv (.long v :: st) ws) : Gs p l e R s m args below meth c Q Z A nL k n pc lv st ws := fun H locs ls hP hD hS hl => lv_lconst X.ex X.by' hd hv (kk H locs ls hP hD hS hl)
theorem g_i2l (X : Cx p s m args meth c cc nL ret own Z A) {x : Int32} (hd : decode cc pc = .ok (.i2l, 1)) (kk : Gs p l e R s m args below meth c Q Z A nL k n (pc + 1) lv (.long x.toInt64 :: st) ws) : Gs p l e R s m args below meth c Q Z A nL k n pc lv (.int x :: st) ws := fun H locs ls hP hD hS hl => lv_i2l X.ex X.by' hd rfl (kk H locs ls hP hD hS hl)
theorem g_i2b (X : Cx p s m args meth c cc nL ret own Z A) {x : Int32} (hd : decode cc pc = .ok (.i2b, 1)) (kk : Gs p l e R s m args below meth c Q Z A nL k n (pc + 1) lv (.int x.toInt8.toInt32 :: st) ws) : Gs p l e R s m args below meth c Q Z A nL k n pc lv (.int x :: st) ws := fun H locs ls hP hD hS hl => lv_i2b X.ex X.by' hd rfl (kk H locs ls hP hD hS hl)
theorem g_dup (X : Cx p s m args meth c cc nL ret own Z A) {va : Value} (hva : va.category = 1) (hd : decode cc pc = .ok (.dup, 1)) (kk : Gs p l e R s m args below meth c Q Z A nL k n (pc + 1) lv (va :: va :: st) ws) : Gs p l e R s m args below meth c Q Z A nL k n pc lv (va :: st) ws := fun H locs ls hP hD hS hl => lv_dup X.ex X.by' hd hva (kk H locs ls hP hD hS hl)
theorem g_pop (X : Cx p s m args meth c cc nL ret own Z A) {va : Value} (hva : va.category = 1) (hd : decode cc pc = .ok (.pop, 1)) (kk : Gs p l e R s m args below meth c Q Z A nL k n (pc + 1) lv st ws) : Gs p l e R s m args below meth c Q Z A nL k n pc lv (va :: st) ws := fun H locs ls hP hD hS hl => lv_pop X.ex X.by' hd hva (kk H locs ls hP hD hS hl)
theorem g_goto (X : Cx p s m args meth c cc nL ret own Z A) {off : Int} (tgt : Nat) (ht : (pc : Int) + off = (tgt : Int)) (hd : decode cc pc = .ok (.goto off, 3)) (kk : Gs p l e R s m args below meth c Q Z A nL k n tgt lv st ws) : Gs p l e R s m args below meth c Q Z A nL k n pc lv st ws := fun H locs ls hP hD hS hl => lv_goto X.ex X.by' hd ht (kk H locs ls hP hD hS hl)
/-- a number gets a name -/
theorem g_name {x : Int32} (kk : ∀ y : Int32, y = x → Gs p l e R s m args below meth c Q Z A nL k n pc lv (.int y :: st) ws) : Gs p l e R s m args below meth c Q Z A nL k n pc lv (.int x :: st) ws := kk x rfl
end GROWS
end
section
section GROWB
variable {p : Program} {l : Launch} {e : Env} {R : Room} {s : State} {m : MethodId} {args : Array Value} {below : List Frame} {meth : Method} {c : Code} {Q : State → Prop} {Z : gZ} {A : Nat → Prop} {nL k n pc : Nat} {lv : List (Nat × Value)} {st : List Value} {ws : va_W} {cc : ByteArray} {ret : Option FieldType} {own : String}
theorem g_iadd (X : Cx p s m args meth c cc nL ret own Z A) {x y : Int32} (hd : decode cc pc = .ok (.iadd, 1)) (kk : Gs p l e R s m args below meth c Q Z A nL k n (pc + 1) lv (.int (x + y) :: st) ws) : Gs p l e R s m args below meth c Q Z A nL k n pc lv (.int y :: .int x :: st) ws := fun H locs ls hP hD hS hl => lv_iadd X.ex X.by' hd (kk H locs ls hP hD hS hl)
theorem g_isub (X : Cx p s m args meth c cc nL ret own Z A) {x y : Int32} (hd : decode cc pc = .ok (.isub, 1)) (kk : Gs p l e R s m args below meth c Q Z A nL k n (pc + 1) lv (.int (x - y) :: st) ws) : Gs p l e R s m args below meth c Q Z A nL k n pc lv (.int y :: .int x :: st) ws := fun H locs ls hP hD hS hl => lv_isub X.ex X.by' hd (kk H locs ls hP hD hS hl)
theorem g_imul (X : Cx p s m args meth c cc nL ret own Z A) {x y : Int32} (hd : decode cc pc = .ok (.imul, 1)) (kk : Gs p l e R s m args below meth c Q Z A nL k n (pc + 1) lv (.int (x * y) :: st) ws) : Gs p l e R s m args below meth c Q Z A nL k n pc lv (.int y :: .int x :: st) ws := fun H locs ls hP hD hS hl => lv_imul X.ex X.by' hd (kk H locs ls hP hD hS hl)
theorem g_iand (X : Cx p s m args meth c cc nL ret own Z A) {x y : Int32} (hd : decode cc pc = .ok (.iand, 1)) (kk : Gs p l e R s m args below meth c Q Z A nL k n (pc + 1) lv (.int (x &&& y) :: st) ws) : Gs p l e R s m args below meth c Q Z A nL k n pc lv (.int y :: .int x :: st) ws := fun H locs ls hP hD hS hl => lv_iand X.ex X.by' hd (kk H locs ls hP hD hS hl)
theorem g_ior (X : Cx p s m args meth c cc nL ret own Z A) {x y : Int32} (hd : decode cc pc = .ok (.ior, 1)) (kk : Gs p l e R s m args below meth c Q Z A nL k n (pc + 1) lv (.int (x ||| y) :: st) ws) : Gs p l e R s m args below meth c Q Z A nL k n pc lv (.int y :: .int x :: st) ws := fun H locs ls hP hD hS hl => lv_ior X.ex X.by' hd (kk H locs ls hP hD hS hl)
theorem g_ixor (X : Cx p s m args meth c cc nL ret own Z A) {x y : Int32} (hd : decode cc pc = .ok (.ixor, 1)) (kk : Gs p l e R s m args below meth c Q Z A nL k n (pc + 1) lv (.int (x ^^^ y) :: st) ws) : Gs p l e R s m args below meth c Q Z A nL k n pc lv (.int y :: .int x :: st) ws := fun H locs ls hP hD hS hl => lv_ixor X.ex X.by' hd (kk H locs ls hP hD hS hl)
theorem g_ishl (X : Cx p s m args meth c cc nL ret own Z A) {x y : Int32} (hd : decode cc pc = .ok (.ishl, 1)) (kk : Gs p l e R s m args below meth c Q Z A nL k n (pc + 1) lv (.int (x <<< (y &&& 31)) :: st) ws) : Gs p l e R s m args below meth c Q Z A nL k n pc lv (.int y :: .int x :: st) ws := fun H locs ls hP hD hS hl => lv_ishl X.ex X.by' hd (kk H locs ls hP hD hS hl)
theorem g_ishr (X : Cx p s m args meth c cc nL ret own Z A) {x y : Int32} (hd : decode cc pc = .ok (.ishr, 1)) (kk : Gs p l e R s m args below meth c Q Z A nL k n (pc + 1) lv (.int (x >>> (y &&& 31)) :: st) ws) : Gs p l e R s m args below meth c Q Z A nL k n pc lv (.int y :: .int x :: st) ws := fun H locs ls hP hD hS hl => lv_ishr X.ex X.by' hd (kk H locs ls hP hD hS hl)
theorem g_idiv (X : Cx p s m args meth c cc nL ret own Z A) {x y : Int32} (h0 : ¬ y = 0) (hd : decode cc pc = .ok (.idiv, 1)) (kk : Gs p l e R s m args below meth c Q Z A nL k n (pc + 1) lv (.int (x / y) :: st) ws) : Gs p l e R s m args below meth c Q Z A nL k n pc lv (.int y :: .int x :: st) ws := fun H locs ls hP hD hS hl => lv_idiv X.ex X.by' hd h0 (kk H locs ls hP hD hS hl)
theorem g_irem (X : Cx p s m args meth c cc nL ret own Z A) {x y : Int32} (h0 : ¬ y = 0) (hd : decode cc pc = .ok (.irem, 1)) (kk : Gs p l e R s m args below meth c Q Z A nL k n (pc + 1) lv (.int (x - x / y * y) :: st) ws) : Gs p l e R s m args below meth c Q Z A nL k n pc lv (.int y :: .int x :: st) ws := fun H locs ls hP hD hS hl => lv_irem X.ex X.by' hd h0 (kk H locs ls hP hD hS hl)
theorem g_iushr (X : Cx p s m args meth c cc nL ret own Z A) {x y : Int32} (hd : decode cc pc = .ok (.iushr, 1)) (kk : Gs p l e R s m args below meth c Q Z A nL k n (pc + 1) lv (.int (x.toUInt32 >>> (y.toUInt32 &&& Int32.toUInt32 31)).toInt32 :: st) ws) : Gs p l e R s m args below meth c Q Z A nL k n pc lv (.int y :: .int x :: st) ws := fun H locs ls hP hD hS hl => lv_iushr X.ex X.by' hd rfl (kk H locs ls hP hD hS hl)
theorem g_ineg (X : Cx p s m args meth c cc nL ret own Z A) {x : Int32} (hd : decode cc pc = .ok (.ineg, 1)) (kk : Gs p l e R s m args below meth c Q Z A nL k n (pc + 1) lv (.int (-x) :: st) ws) : Gs p l e R s m args below meth c Q Z A nL k n pc lv (.int x :: st) ws := fun H locs ls hP hD hS hl => lv_ineg X.ex X.by' hd (kk H locs ls hP hD hS hl)
theorem g_icmp_eq (X : Cx p s m args meth c cc nL ret own Z A) {x y : Int32} {off : Int} (tgt : Nat) (ht : (pc : Int) + off = (tgt : Int)) (hd : decode cc pc = .ok (.if_icmp .eq off, 3)) (kt : x = y → Gs p l e R s m args below meth c Q Z A nL k n tgt lv st ws) (kf : ¬ (x = y) → Gs p l e R s m args below meth c Q Z A nL k n (pc + 3) lv st ws) : Gs p l e R s m args below meth c Q Z A nL k n pc lv (.int y :: .int x :: st) ws := fun H locs ls hP hD hS hl => lv_icmp_eq X.ex X.by' hd ht (fun h => kt h H locs ls hP hD hS hl) (fun h => kf h H locs ls hP hD hS hl)
theorem g_icmp_ne (X : Cx p s m args meth c cc nL ret own Z A) {x y : Int32} {off : Int} (tgt : Nat) (ht : (pc : Int) + off = (tgt : Int)) (hd : decode cc pc = .ok (.if_icmp .ne off, 3)) (kt : ¬ x = y → Gs p l e R s m args below meth c Q Z A nL k n tgt lv st ws) (kf : x = y → Gs p l e R s m args below meth c Q Z A nL k n (pc + 3) lv st ws) : Gs p l e R s m args below meth c Q Z A nL k n pc lv (.int y :: .int x :: st) ws := fun H locs ls hP hD hS hl => lv_icmp_ne X.ex X.by' hd ht (fun h => kt h H locs ls hP hD hS hl) (fun h => kf h H locs ls hP hD hS hl)
theorem g_icmp_lt (X : Cx p s m args meth c cc nL ret own Z A) {x y : Int32} {off : Int} (tgt : Nat) (ht : (pc : Int) + off = (tgt : Int)) (hd : decode cc pc = .ok (.if_icmp .lt off, 3)) (kt : x < y → Gs p l e R s m args below meth c Q Z A nL k n tgt lv st ws) (kf : ¬ (x < y) → Gs p l e R s m args below meth c Q Z A nL k n (pc + 3) lv st ws) : Gs p l e R s m args below meth c Q Z A nL k n pc lv (.int y :: .int x :: st) ws := fun H locs ls hP hD hS hl => lv_icmp_lt X.ex X.by' hd ht (fun h => kt h H locs ls hP hD hS hl) (fun h => kf h H locs ls hP hD hS hl)
theorem g_icmp_ge (X : Cx p s m args meth c cc nL ret own Z A) {x y : Int32} {off : Int} (tgt : Nat) (ht : (pc : Int) + off = (tgt : Int)) (hd : decode cc pc = .ok (.if_icmp .ge off, 3)) (kt : y ≤ x → Gs p l e R s m args below meth c Q Z A nL k n tgt lv st ws) (kf : ¬ (y ≤ x) → Gs p l e R s m args below meth c Q Z A nL k n (pc + 3) lv st ws) : Gs p l e R s m args below meth c Q Z A nL k n pc lv (.int y :: .int x :: st) ws := fun H locs ls hP hD hS hl => lv_icmp_ge X.ex X.by' hd ht (fun h => kt h H locs ls hP hD hS hl) (fun h => kf h H locs ls hP hD hS hl)
theorem g_icmp_gt (X : Cx p s m args meth c cc nL ret own Z A) {x y : Int32} {off : Int} (tgt : Nat) (ht : (pc : Int) + off = (tgt : Int)) (hd : decode cc pc = .ok (.if_icmp .gt off, 3)) (kt : y < x → Gs p l e R s m args below meth c Q Z A nL k n tgt lv st ws) (kf : ¬ (y < x) → Gs p l e R s m args below meth c Q Z A nL k n (pc + 3) lv st ws) : Gs p l e R s m args below meth c Q Z A nL k n pc lv (.int y :: .int x :: st) ws := fun H locs ls hP hD hS hl => lv_icmp_gt X.ex X.by' hd ht (fun h => kt h H locs ls hP hD hS hl) (fun h => kf h H locs ls hP hD hS hl)
theorem g_icmp_le (X : Cx p s m args meth c cc nL ret own Z A) {x y : Int32} {off : Int} (tgt : Nat) (ht : (pc : Int) + off = (tgt : Int)) (hd : decode cc pc = .ok (.if_icmp .le off, 3)) (kt : x ≤ y → Gs p l e R s m args below meth c Q Z A nL k n tgt lv st ws) (kf : ¬ (x ≤ y) → Gs p l e R s m args below meth c Q Z A nL k n (pc + 3) lv st ws) : Gs p l e R s m args below meth c Q Z A nL k n pc lv (.int y :: .int x :: st) ws := fun H locs ls hP hD hS hl => lv_icmp_le X.ex X.by' hd ht (fun h => kt h H locs ls hP hD hS hl) (fun h => kf h H locs ls hP hD hS hl)
theorem g_if_eq (X : Cx p s m args meth c cc nL ret own Z A) {x : Int32} {off : Int} (tgt : Nat) (ht : (pc : Int) + off = (tgt : Int)) (hd : decode cc pc = .ok (.ifCond .eq off, 3)) (kt : x = 0 → Gs p l e R s m args below meth c Q Z A nL k n tgt lv st ws) (kf : ¬ (x = 0) → Gs p l e R s m args below meth c Q Z A nL k n (pc + 3) lv st ws) : Gs p l e R s m args below meth c Q Z A nL k n pc lv (.int x :: st) ws := fun H locs ls hP hD hS hl => lv_if_eq X.ex X.by' hd ht (fun h => kt h H locs ls hP hD hS hl) (fun h => kf h H locs ls hP hD hS hl)
theorem g_if_ne (X : Cx p s m args meth c cc nL ret own Z A) {x : Int32} {off : Int} (tgt : Nat) (ht : (pc : Int) + off = (tgt : Int)) (hd : decode cc pc = .ok (.ifCond .ne off, 3)) (kt : ¬ x = 0 → Gs p l e R s m args below meth c Q Z A nL k n tgt lv st ws) (kf : x = 0 → Gs p l e R s m args below meth c Q Z A nL k n (pc + 3) lv st ws) : Gs p l e R s m args below meth c Q Z A nL k n pc lv (.int x :: st) ws := fun H locs ls hP hD hS hl => lv_if_ne X.ex X.by' hd ht (fun h => kt h H locs ls hP hD hS hl) (fun h => kf h H locs ls hP hD hS hl)
theorem g_if_lt (X : Cx p s m args meth c cc nL ret own Z A) {x : Int32} {off : Int} (tgt : Nat) (ht : (pc : Int) + off = (tgt : Int)) (hd : decode cc pc = .ok (.ifCond .lt off, 3)) (kt : x < 0 → Gs p l e R s m args below meth c Q Z A nL k n tgt lv st ws) (kf : ¬ (x < 0) → Gs p l e R s m args below meth c Q Z A nL k n (pc + 3) lv st ws) : Gs p l e R s m args below meth c Q Z A nL k n pc lv (.int x :: st) ws := fun H locs ls hP hD hS hl => lv_if_lt X.ex X.by' hd ht (fun h => kt h H locs ls hP hD hS hl) (fun h => kf h H locs ls hP hD hS hl)
theorem g_if_ge (X : Cx p s m args meth c cc nL ret own Z A) {x : Int32} {off : Int} (tgt : Nat) (ht : (pc : Int) + off = (tgt : Int)) (hd : decode cc pc = .ok (.ifCond .ge off, 3)) (kt : 0 ≤ x → Gs p l e R s m args below meth c Q Z A nL k n tgt lv st ws) (kf : ¬ (0 ≤ x) → Gs p l e R s m args below meth c Q Z A nL k n (pc + 3) lv st ws) : Gs p l e R s m args below meth c Q Z A nL k n pc lv (.int x :: st) ws := fun H locs ls hP hD hS hl => lv_if_ge X.ex X.by' hd ht (fun h => kt h H locs ls hP hD hS hl) (fun h => kf h H locs ls hP hD hS hl)
theorem g_if_gt (X : Cx p s m args meth c cc nL ret own Z A) {x : Int32} {off : Int} (tgt : Nat) (ht : (pc : Int) + off = (tgt : Int)) (hd : decode cc pc = .ok (.ifCond .gt off, 3)) (kt : 0 < x → Gs p l e R s m args below meth c Q Z A nL k n tgt lv st ws) (kf : ¬ (0 < x) → Gs p l e R s m args below meth c Q Z A nL k n (pc + 3) lv st ws) : Gs p l e R s m args below meth c Q Z A nL k n pc lv (.int x :: st) ws := fun H locs ls hP hD hS hl => lv_if_gt X.ex X.by' hd ht (fun h => kt h H locs ls hP hD hS hl) (fun h => kf h H locs ls hP hD hS hl)
theorem g_if_le (X : Cx p s m args meth c cc nL ret own Z A) {x : Int32} {off : Int} (tgt : Nat) (ht : (pc : Int) + off = (tgt : Int)) (hd : decode cc pc = .ok (.ifCond .le off, 3)) (kt : x ≤ 0 → Gs p l e R s m args below meth c Q Z A nL k n tgt lv st ws) (kf : ¬ (x ≤ 0) → Gs p l e R s m args below meth c Q Z A nL k n (pc + 3) lv st ws) : Gs p l e R s m args below meth c Q Z A nL k n pc lv (.int x :: st) ws := fun H locs ls hP hD hS hl => lv_if_le X.ex X.by' hd ht (fun h => kt h H locs ls hP hD hS hl) (fun h => kf h H locs ls hP hD hS hl)
end GROWB
end
section
section GROWH
variable {p : Program} {l : Launch} {e : Env} {R : Room} {s : State} {m : MethodId} {args : Array Value} {below : List Frame} {meth : Method} {c : Code} {Q : State → Prop} {Z : gZ} {A : Nat → Prop} {nL k n pc : Nat} {lv : List (Nat × Value)} {st : List Value} {ws : va_W} {cc : ByteArray} {ret : Option FieldType} {own : String}
theorem g_null (X : Cx p s m args meth c cc nL ret own Z A) (hd : decode cc pc = .ok (.aconst_null, 1)) (kk : Gs p l e R s m args below meth c Q Z A nL k n (pc + 1) lv (.null :: st) ws) : Gs p l e R s m args below meth c Q Z A nL k n pc lv st ws := fun H locs ls hP hD hS hl => lv_null X.ex X.by' hd (kk H locs ls hP hD hS hl)
theorem g_ifnullN (X : Cx p s m args meth c cc nL ret own Z A) {off : Int} (tgt : Nat) (ht : (pc : Int) + off = (tgt : Int)) (hd : decode cc pc = .ok (.ifnull off, 3)) (kk : Gs p l e R s m args below meth c Q Z A nL k n tgt lv st ws) : Gs p l e R s m args below meth c Q Z A nL k n pc lv (.null :: st) ws := fun H locs ls hP hD hS hl => lv_ifnullN X.ex X.by' hd ht (kk H locs ls hP hD hS hl)
theorem g_ifnonnullN (X : Cx p s m args meth c cc nL ret own Z A) {off : Int} (hd : decode cc pc = .ok (.ifnonnull off, 3)) (kk : Gs p l e R s m args below meth c Q Z A nL k n (pc + 3) lv st ws) : Gs p l e R s m args below meth c Q Z A nL k n pc lv (.null :: st) ws := fun H locs ls hP hD hS hl => lv_ifnonnullN X.ex X.by' hd (kk H locs ls hP hD hS hl)
theorem g_ifnull (X : Cx p s m args meth c cc nL ret own Z A) {x : Nat} {off : Int} (hd : decode cc pc = .ok (.ifnull off, 3)) (kk : Gs p l e R s m args below meth c Q Z A nL k n (pc + 3) lv st ws) : Gs p l e R s m args below meth c Q Z A nL k n pc lv (.ref x :: st) ws := fun H locs ls hP hD hS hl => lv_ifnull X.ex X.by' hd (kk H locs ls hP hD hS hl)
theorem g_ifnonnull (X : Cx p s m args meth c cc nL ret own Z A) {x : Nat} {off : Int} (tgt : Nat) (ht : (pc : Int) + off = (tgt : Int)) (hd : decode cc pc = .ok (.ifnonnull off, 3)) (kk : Gs p l e R s m args below meth c Q Z A nL k n tgt lv st ws) : Gs p l e R s m args below meth c Q Z A nL k n pc lv (.ref x :: st) ws := fun H locs ls hP hD hS hl => lv_ifnonnull X.ex X.by' hd ht (kk H locs ls hP hD hS hl)
theorem g_aloadN (X : Cx p s m args meth c cc nL ret own Z A) {i : Nat} (j : Nat) (hj : lv[j]? = some (i, .null)) (hd : decode cc pc = .ok (.aload i, 2)) (kk : Gs p l e R s m args below meth c Q Z A nL k n (pc + 2) lv (.null :: st) ws) : Gs p l e R s m args below meth c Q Z A nL k n pc lv st ws := fun H locs ls hP hD hS hl => lv_aloadN X.ex X.by' hd (lv_at hl j hj) (kk H locs ls hP hD hS hl)
theorem g_aload_nN (X : Cx p s m args meth c cc nL ret own Z A) {f : Fin 4} (j : Nat) (hj : lv[j]? = some ((f : Nat), .null)) (hd : decode cc pc = .ok (.aload_n f, 1)) (kk : Gs p l e R s m args below meth c Q Z A nL k n (pc + 1) lv (.null :: st) ws) : Gs p l e R s m args below meth c Q Z A nL k n pc lv st ws := fun H locs ls hP hD hS hl => lv_aload_nN X.ex X.by' hd rfl (lv_at hl j hj) (kk H locs ls hP hD hS hl)
theorem g_astoreN (X : Cx p s m args meth c cc nL ret own Z A) {i : Nat} {lv' : List (Nat × Value)} (hn : i < nL) (hl : (i, Value.null) :: lv.filter (fun q => !(q.1 == i) && !(q.1 + 1 == i && q.2.category == 2)) = lv') (hd : decode cc pc = .ok (.astore i, 2)) (kk : Gs p l e R s m args below meth c Q Z A nL k n (pc + 2) lv' st ws) : Gs p l e R s m args below meth c Q Z A nL k n pc lv (.null :: st) ws := fun H locs ls hP hD hS hL => lv_astoreN X.ex X.by' hd hL hn hl (fun ls' h => kk H locs ls' hP hD hS h)
theorem g_astore_nN (X : Cx p s m args meth c cc nL ret own Z A) {f : Fin 4} {i : Nat} {lv' : List (Nat × Value)} (hi : (f : Nat) = i) (hn : i < nL) (hl : (i, Value.null) :: lv.filter (fun q => !(q.1 == i) && !(q.1 + 1 == i && q.2.category == 2)) = lv') (hd : decode cc pc = .ok (.astore_n f, 1)) (kk : Gs p l e R s m args below meth c Q Z A nL k n (pc + 1) lv' st ws) : Gs p l e R s m args below meth c Q Z A nL k n pc lv (.null :: st) ws := fun H locs ls hP hD hS hL => lv_astore_nN X.ex X.by' hd hi hL hn hl (fun ls' h => kk H locs ls' hP hD hS h)
theorem g_lcmp (X : Cx p s m args meth c cc nL ret own Z A) {x y : Int64} (hd : decode cc pc = .ok (.lcmp, 1)) (kk : Gs p l e R s m args below meth c Q Z A nL k n (pc + 1) lv (.int (lg_cmp x y) :: st) ws) : Gs p l e R s m args below meth c Q Z A nL k n pc lv (.long y :: .long x :: st) ws := fun H locs ls hP hD hS hl => W.lcmp X.ex X.by' hd (kk H locs ls hP hD hS hl)
theorem g_dup2 (X : Cx p s m args meth c cc nL ret own Z A) {va vb : Value} (hva : va.category = 1) (hvb : vb.category = 1) (hd : decode cc pc = .ok (.dup2, 1)) (kk : Gs p l e R s m args below meth c Q Z A nL k n (pc + 1) lv (va :: vb :: va :: vb :: st) ws) : Gs p l e R s m args below meth c Q Z A nL k n pc lv (va :: vb :: st) ws := fun H locs ls hP hD hS hl => lv_dup2_11 X.ex X.by' hd hva hvb (kk H locs ls hP hD hS hl)
theorem g_tableIn (X : Cx p s m args meth c cc nL ret own Z A) {dflt lo hi : Int} {offs : Array Int} {len : Nat} {x : Int32} {off : Int} (tgt : Nat) (h1 : ¬ x.toInt < lo) (h2 : ¬ hi < x.toInt) (ho : offs[(x.toInt - lo).toNat]? = some off) (ht : (pc : Int) + off = (tgt : Int)) (hd : decode cc pc = .ok (.tableswitch dflt lo hi offs, len)) (kk : Gs p l e R s m args below meth c Q Z A nL k n tgt lv st ws) : Gs p l e R s m args below meth c Q Z A nL k n pc lv (.int x :: st) ws := fun H locs ls hP hD hS hl => lv_tableIn X.ex X.by' hd h1 h2 ho ht (kk H locs ls hP hD hS hl)
theorem g_tableOut (X : Cx p s m args meth c cc nL ret own Z A) {dflt lo hi : Int} {offs : Array Int} {len : Nat} {x : Int32} (tgt : Nat) (h1 : x.toInt < lo ∨ hi < x.toInt) (ht : (pc : Int) + dflt = (tgt : Int)) (hd : decode cc pc = .ok (.tableswitch dflt lo hi offs, len)) (kk : Gs p l e R s m args below meth c Q Z A nL k n tgt lv st ws) : Gs p l e R s m args below meth c Q Z A nL k n pc lv (.int x :: st) ws := fun H locs ls hP hD hS hl => lv_tableOut X.ex X.by' hd h1 ht (kk H locs ls hP hD hS hl)
theorem g_objInit (X : Cx p s m args meth c cc nL ret own Z A) {i a : Nat} (hlink : Cond.methodLink own i Lib.objectInit ∈ wU) (hin : Cond.instanceMethod Lib.objectInit ∈ wU) (hco : Cond.code Lib.objectInit ⟨#[0xb1]⟩ 1 none ∈ wU) (hfr : 1 ≤ R.frames) (hlo : (st.map fun v => v.category).sum + 12 ≤ R.locals) (hd : decode cc pc = .ok (.invokespecial i, 3)) (kk : Gs p l e R s m args below meth c Q Z A nL k n (pc + 3) lv st ws) : Gs p l e R s m args below meth c Q Z A nL k n pc lv (.ref a :: st) ws := fun H locs ls hP hD hS hl => W.objInit X.ex X.by' X.ow (X.ts _ hlink) (X.ts _ hin) (X.ts _ hco) rfl (by rw [X.ml]; exact hl.1) rfl hd hfr (by simpa [F0, JFrame.monitorRoom] using hlo) (kk H locs ls hP hD hS hl)
theorem g_get (X : Cx p s m args meth c cc nL ret own Z A) {C : String} {T : u_T} {N ci i a : Nat} (hin : ∀ w ∈ u_ws C T N, w ∈ wU) (q0 : Nat) {fs : List Value} (he : ws[q0]? = some (a, .inr (ci, fs))) (hc : vwCl[ci]? = some (C, T, N)) (f : Nat) (hf : f < N) (hlink : Cond.fieldLink own i (T f).1 (T f).2.1 (T f).2.2.1 ∈ wU) {v : Value} (hv : fs[f]? = some v) (hd : decode cc pc = .ok (.getfield i, 3)) (kk : Gs p l e R s m args below meth c Q Z A nL k n (pc + 3) lv (v :: st) ws) : Gs p l e R s m args below meth c Q Z A nL k n pc lv (.ref a :: st) ws := fun H locs ls hP hD hS hl => va_get X.ex X.by' X.ts hin X.ow X.ka hP q0 he hc f hf (X.ts _ hlink) (fun _ h => h) hv hd (kk H locs ls hP hD hS hl)
theorem g_put (X : Cx p s m args meth c cc nL ret own Z A) {C : String} {T : u_T} {N ci i a : Nat} (hin : ∀ w ∈ u_ws C T N, w ∈ wU) {ty0 : Nat → FieldType} (hty : ∀ k, k < N → parseFieldDescriptor (T k).2.2.1 = some (ty0 k)) (hnm : ∀ a, a < N → ∀ b, b < N → a ≠ b → (T a).2.1 ≠ (T b).2.1) (q0 : Nat) {fs : List Value} (he : ws[q0]? = some (a, .inr (ci, fs))) (hc : vwCl[ci]? = some (C, T, N)) (f : Nat) (hf : f < N) (hlink : Cond.fieldLink own i (T f).1 (T f).2.1 (T f).2.2.1 ∈ wU) (hfin : (T f).2.2.2 = false) {v : Value} (hn : narrow (ty0 f) v = v) (hfit : fits (ty0 f) v = true) (hl : f < fs.length) {ws' : va_W} (hw : ws.set q0 (a, .inr (ci, fs.set f v)) = ws') (hd : decode cc pc = .ok (.putfield i, 3)) (kk : Gs p l e R s m args below meth c Q Z A nL k n (pc + 3) lv st ws') : Gs p l e R s m args below meth c Q Z A nL k n pc lv (v :: .ref a :: st) ws := fun H locs ls hP hD hS hL => va_put X.ex X.by' X.ts hin ty0 hty hnm X.ow X.ka hP hD hS q0 he hc f hf (X.ts _ hlink) (fun _ h => h) hfin (hty f hf) hn hfit hl hd (fun H1 locs1 hP hD hS => kk H1 locs1 ls (hw ▸ hP) (hw ▸ hD) hS hL)
theorem g_putF (X : Cx p s m args meth c cc nL ret own Z A) (hini : meth.name = "<init>") {C : String} {T : u_T} {N ci i a : Nat} (hin : ∀ w ∈ u_ws C T N, w ∈ wU) {ty0 : Nat → FieldType} (hty : ∀ k, k < N → parseFieldDescriptor (T k).2.2.1 = some (ty0 k)) (hnm : ∀ a, a < N → ∀ b, b < N → a ≠ b → (T a).2.1 ≠ (T b).2.1) (q0 : Nat) {fs : List Value} (he : ws[q0]? = some (a, .inr (ci, fs))) (hc : vwCl[ci]? = some (C, T, N)) (f : Nat) (hf : f < N) (hlink : Cond.fieldLink own i (T f).1 (T f).2.1 (T f).2.2.1 ∈ wU) (hfin : (T f).2.2.2 = true) (hdecl : (T f).1 = own) {v : Value} (hn : narrow (ty0 f) v = v) (hfit : fits (ty0 f) v = true) (hl : f < fs.length) {ws' : va_W} (hw : ws.set q0 (a, .inr (ci, fs.set f v)) = ws') (hd : decode cc pc = .ok (.putfield i, 3)) (kk : Gs p l e R s m args below meth c Q Z A nL k n (pc + 3) lv st ws') : Gs p l e R s m args below meth c Q Z A nL k n pc lv (v :: .ref a :: st) ws := fun H locs ls hP hD hS hL => va_putF X.ex X.by' X.ts hin ty0 hty hnm X.ow X.ka hP hD hS q0 he hc f hf (X.ts _ hlink) (fun _ h => h) hfin hini hdecl (hty f hf) hn hfit hl hd (fun H1 locs1 hP hD hS => kk H1 locs1 ls (hw ▸ hP) (hw ▸ hD) hS hL)
theorem g_new (X : Cx p s m args meth c cc nL ret own Z A) {C : String} {T : u_T} {N ci i : Nat} (hin : ∀ w ∈ u_ws C T N, w ∈ wU) {ty : Nat → FieldType} (hty : ∀ k, k < N → parseFieldDescriptor (T k).2.2.1 = some (ty k)) (hcl : Cond.classLink own i C ∈ wU) (hinst : Cond.instantiable C N ∈ wU) (hini : Cond.initialized C ∈ wU) (hc : vwCl[ci]? = some (C, T, N)) {fs : List Value} (hfs : ∀ j, j < N → defaultValue (ty j) = vp_V fs j) (hcells : k + 1 ≤ R.cells) (hslots : n + N ≤ R.slots) (hd : decode cc pc = .ok (.new i, 3)) (kk : ∀ q : Nat, Gs p l e R s m args below meth c Q Z A nL (k + 1) (n + N) (pc + 3) lv (.ref q :: st) (ws ++ [(q, .inr (ci, fs))])) : Gs p l e R s m args below meth c Q Z A nL k n pc lv st ws := fun H locs ls hP hD hS hl => va_new X.ex X.by' X.ts hin ty hty X.ow (X.ts _ hcl) (X.ts _ hinst) (X.ts _ hini) X.ka hP hD hS X.ha hc hfs hcells hslots hd (fun q H1 hP hD hS => kk q H1 locs ls hP hD hS hl)
theorem g_newi (X : Cx p s m args meth c cc nL ret own Z A) {x : Int32} (N : Nat) (harr : Cond.arrayClass .int ∈ wU) (hn : ¬ x < 0) (hN : x.toNatClampNeg = N) (hb : N ≤ 100000) (hcells : k + 1 ≤ R.cells) (hslots : n + N ≤ R.slots) (hd : decode cc pc = .ok (.newarray .int, 2)) (kk : ∀ q : Nat, Gs p l e R s m args below meth c Q Z A nL (k + 1) (n + N) (pc + 2) lv (.ref q :: st) (ws ++ [(q, .inl (Z.2.1 0, N, .inl (fun _ => 0)))])) : Gs p l e R s m args below meth c Q Z A nL k n pc lv (.int x :: st) ws := fun H locs ls hP hD hS hl => va_newa (atype := .int) (ty := .int) (a0 := (N, .inl (fun _ => 0))) X.ex X.by' (X.ts _ harr) rfl X.ka hP hD hS X.ha (fun cA => rfl) hn hN (by show N * 4 ≤ _; omega) hcells hslots hd (fun q cA H1 hK hP hD hS => by
  have h1 : s.vm.findClass ("[" ++ FieldType.int.toString) = some cA := (hK.2 8 _ rfl).2
  have h2 : s.vm.findClass ("[" ++ FieldType.int.toString) = some (Z.2.1 0) := (X.ka.2 0 _ rfl).2
  cases h1.symm.trans h2
  exact kk q H1 locs ls hP hD hS hl)
theorem g_newb (X : Cx p s m args meth c cc nL ret own Z A) {x : Int32} (N : Nat) (harr : Cond.arrayClass .byte ∈ wU) (hn : ¬ x < 0) (hN : x.toNatClampNeg = N) (hb : N ≤ 100000) (hcells : k + 1 ≤ R.cells) (hslots : n + N ≤ R.slots) (hd : decode cc pc = .ok (.newarray .byte, 2)) (kk : ∀ q : Nat, Gs p l e R s m args below meth c Q Z A nL (k + 1) (n + N) (pc + 2) lv (.ref q :: st) (ws ++ [(q, .inl (Z.2.1 1, N, .inl (fun _ => 0)))])) : Gs p l e R s m args below meth c Q Z A nL k n pc lv (.int x :: st) ws := fun H locs ls hP hD hS hl => va_newa (atype := .byte) (ty := .byte) (a0 := (N, .inl (fun _ => 0))) X.ex X.by' (X.ts _ harr) rfl X.ka hP hD hS X.ha (fun cA => rfl) hn hN (by show N * 1 ≤ _; omega) hcells hslots hd (fun q cA H1 hK hP hD hS => by
  have h1 : s.vm.findClass ("[" ++ FieldType.byte.toString) = some cA := (hK.2 8 _ rfl).2
  have h2 : s.vm.findClass ("[" ++ FieldType.byte.toString) = some (Z.2.1 1) := (X.ka.2 1 _ rfl).2
  cases h1.symm.trans h2
  exact kk q H1 locs ls hP hD hS hl)
theorem g_newz (X : Cx p s m args meth c cc nL ret own Z A) {x : Int32} (N : Nat) (harr : Cond.arrayClass .boolean ∈ wU) (hn : ¬ x < 0) (hN : x.toNatClampNeg = N) (hb : N ≤ 100000) (hcells : k + 1 ≤ R.cells) (hslots : n + N ≤ R.slots) (hd : decode cc pc = .ok (.newarray .boolean, 2)) (kk : ∀ q : Nat, Gs p l e R s m args below meth c Q Z A nL (k + 1) (n + N) (pc + 2) lv (.ref q :: st) (ws ++ [(q, .inl (Z.2.1 2, N, .inl (fun _ => 0)))])) : Gs p l e R s m args below meth c Q Z A nL k n pc lv (.int x :: st) ws := fun H locs ls hP hD hS hl => va_newa (atype := .boolean) (ty := .boolean) (a0 := (N, .inl (fun _ => 0))) X.ex X.by' (X.ts _ harr) rfl X.ka hP hD hS X.ha (fun cA => rfl) hn hN (by show N * 1 ≤ _; omega) hcells hslots hd (fun q cA H1 hK hP hD hS => by
  have h1 : s.vm.findClass ("[" ++ FieldType.boolean.toString) = some cA := (hK.2 8 _ rfl).2
  have h2 : s.vm.findClass ("[" ++ FieldType.boolean.toString) = some (Z.2.1 2) := (X.ka.2 2 _ rfl).2
  cases h1.symm.trans h2
  exact kk q H1 locs ls hP hD hS hl)
/-- new C[n]: t0 is the place of C[] among the array classes -/
theorem g_newq (X : Cx p s m args meth c cc nL ret own Z A) {x : Int32} {C : String} {i : Nat} (N t0 : Nat) (hcl : Cond.classLink own i C ∈ wU) (hover : va_AO C s) (ht : (gTy Z.2.1)[t0]? = some (Z.2.1 t0, .object C)) (hn : ¬ x < 0) (hN : x.toNatClampNeg = N) (hb : N ≤ 100000) (hcells : k + 1 ≤ R.cells) (hslots : n + N ≤ R.slots) (hd : decode cc pc = .ok (.anewarray i, 3)) (kk : ∀ q : Nat, Gs p l e R s m args below meth c Q Z A nL (k + 1) (n + N) (pc + 3) lv (.ref q :: st) (ws ++ [(q, .inl (Z.2.1 t0, N, .inr (.inr (.inr (.inr (fun _ => none))))))])) : Gs p l e R s m args below meth c Q Z A nL k n pc lv (.int x :: st) ws := fun H locs ls hP hD hS hl => va_newq X.ex X.by' X.ow (X.ts _ hcl) hover X.ka hP hD hS X.ha hn hN (by omega) hcells hslots hd (fun q cA H1 hK hP hD hS => by
  obtain ⟨_, _, -, -, -, h1⟩ := (hK.2 8 _ rfl).2
  obtain ⟨_, _, -, -, -, h2⟩ := (X.ka.2 t0 _ ht).2
  cases h1.symm.trans h2
  exact kk q H1 locs ls hP hD hS hl)
theorem g_iald (X : Cx p s m args meth c cc nL ret own Z A) (q0 : Nat) {a N : Nat} {f : Nat → Int32} {i : Int32} (ha : ws[q0]? = some (a, .inl (Z.2.1 0, N, .inl f))) (hin : vp_in i N) (hd : decode cc pc = .ok (.iaload, 1)) (kk : Gs p l e R s m args below meth c Q Z A nL k n (pc + 1) lv (.int (f i.toNatClampNeg) :: st) ws) : Gs p l e R s m args below meth c Q Z A nL k n pc lv (.int i :: .ref a :: st) ws := fun H locs ls hP hD hS hl => va_iald X.ex X.by' X.ka hP q0 0 ha rfl hin hd (kk H locs ls hP hD hS hl)
theorem g_iast (X : Cx p s m args meth c cc nL ret own Z A) (q0 : Nat) {a N : Nat} {f : Nat → Int32} {i x : Int32} (ha : ws[q0]? = some (a, .inl (Z.2.1 0, N, .inl f))) (hin : vp_in i N) {ws' : va_W} (hw : ws.set q0 (a, .inl (Z.2.1 0, N, .inl (upd f i.toNatClampNeg x))) = ws') (hd : decode cc pc = .ok (.iastore, 1)) (kk : Gs p l e R s m args below meth c Q Z A nL k n (pc + 1) lv st ws') : Gs p l e R s m args below meth c Q Z A nL k n pc lv (.int x :: .int i :: .ref a :: st) ws := fun H locs ls hP hD hS hl => va_iast X.ex X.by' X.ka hP hD hS q0 0 ha rfl hin hd (fun H1 locs1 hP hD hS => kk H1 locs1 ls (hw ▸ hP) (hw ▸ hD) hS hl)
theorem g_bald (X : Cx p s m args meth c cc nL ret own Z A) (q0 : Nat) {a N : Nat} {f : Nat → Int32} {i : Int32} (ha : ws[q0]? = some (a, .inl (Z.2.1 1, N, .inl f))) (hin : vp_in i N) (hd : decode cc pc = .ok (.baload, 1)) (kk : Gs p l e R s m args below meth c Q Z A nL k n (pc + 1) lv (.int (f i.toNatClampNeg) :: st) ws) : Gs p l e R s m args below meth c Q Z A nL k n pc lv (.int i :: .ref a :: st) ws := fun H locs ls hP hD hS hl => va_bald X.ex X.by' X.ka hP q0 1 ha rfl hin hd (kk H locs ls hP hD hS hl)
theorem g_bast (X : Cx p s m args meth c cc nL ret own Z A) (q0 : Nat) {a N : Nat} {f : Nat → Int32} {i x : Int32} (ha : ws[q0]? = some (a, .inl (Z.2.1 1, N, .inl f))) (hin : vp_in i N) {ws' : va_W} (hw : ws.set q0 (a, .inl (Z.2.1 1, N, .inl (upd f i.toNatClampNeg (vp_nar .byte x)))) = ws') (hd : decode cc pc = .ok (.bastore, 1)) (kk : Gs p l e R s m args below meth c Q Z A nL k n (pc + 1) lv st ws') : Gs p l e R s m args below meth c Q Z A nL k n pc lv (.int x :: .int i :: .ref a :: st) ws := fun H locs ls hP hD hS hl => va_bast X.ex X.by' X.ka hP hD hS q0 1 ha rfl hin hd (fun H1 locs1 hP hD hS => kk H1 locs1 ls (hw ▸ hP) (hw ▸ hD) hS hl)
theorem g_zald (X : Cx p s m args meth c cc nL ret own Z A) (q0 : Nat) {a N : Nat} {f : Nat → Int32} {i : Int32} (ha : ws[q0]? = some (a, .inl (Z.2.1 2, N, .inl f))) (hin : vp_in i N) (hd : decode cc pc = .ok (.baload, 1)) (kk : Gs p l e R s m args below meth c Q Z A nL k n (pc + 1) lv (.int (f i.toNatClampNeg) :: st) ws) : Gs p l e R s m args below meth c Q Z A nL k n pc lv (.int i :: .ref a :: st) ws := fun H locs ls hP hD hS hl => va_zald X.ex X.by' X.ka hP q0 2 ha rfl hin hd (kk H locs ls hP hD hS hl)
theorem g_zast (X : Cx p s m args meth c cc nL ret own Z A) (q0 : Nat) {a N : Nat} {f : Nat → Int32} {i x : Int32} (ha : ws[q0]? = some (a, .inl (Z.2.1 2, N, .inl f))) (hin : vp_in i N) {ws' : va_W} (hw : ws.set q0 (a, .inl (Z.2.1 2, N, .inl (upd f i.toNatClampNeg (vp_nar .boolean x)))) = ws') (hd : decode cc pc = .ok (.bastore, 1)) (kk : Gs p l e R s m args below meth c Q Z A nL k n (pc + 1) lv st ws') : Gs p l e R s m args below meth c Q Z A nL k n pc lv (.int x :: .int i :: .ref a :: st) ws := fun H locs ls hP hD hS hl => va_zast X.ex X.by' X.ka hP hD hS q0 2 ha rfl hin hd (fun H1 locs1 hP hD hS => kk H1 locs1 ls (hw ▸ hP) (hw ▸ hD) hS hl)
theorem g_aald (X : Cx p s m args meth c cc nL ret own Z A) (q0 t0 : Nat) {C : String} {a N : Nat} {f : Nat → Option Nat} {i : Int32} (ha : ws[q0]? = some (a, .inl (Z.2.1 t0, N, .inr (.inr (.inr (.inr f)))))) (ht : (gTy Z.2.1)[t0]? = some (Z.2.1 t0, .object C)) (hin : vp_in i N) (hd : decode cc pc = .ok (.aaload, 1)) (kk : Gs p l e R s m args below meth c Q Z A nL k n (pc + 1) lv (va_rf (f i.toNatClampNeg) :: st) ws) : Gs p l e R s m args below meth c Q Z A nL k n pc lv (.int i :: .ref a :: st) ws := fun H locs ls hP hD hS hl => va_aldq X.ex X.by' X.ka hP q0 t0 ha ht hin hd (kk H locs ls hP hD hS hl)
theorem g_aast (X : Cx p s m args meth c cc nL ret own Z A) (q0 t0 qk ci : Nat) {r : vw_C} {a N v : Nat} {vs : List Value} {f : Nat → Option Nat} {i : Int32} (ha : ws[q0]? = some (a, .inl (Z.2.1 t0, N, .inr (.inr (.inr (.inr f)))))) (ht : (gTy Z.2.1)[t0]? = some (Z.2.1 t0, .object r.1)) (hv : ws[qk]? = some (v, .inr (ci, vs))) (hc : vwCl[ci]? = some r) (hin : vp_in i N) {ws' : va_W} (hw : ws.set q0 (a, .inl (Z.2.1 t0, N, .inr (.inr (.inr (.inr (va_up f i.toNatClampNeg (some v))))))) = ws') (hd : decode cc pc = .ok (.aastore, 1)) (kk : Gs p l e R s m args below meth c Q Z A nL k n (pc + 1) lv st ws') : Gs p l e R s m args below meth c Q Z A nL k n pc lv (.ref v :: .int i :: .ref a :: st) ws := fun H locs ls hP hD hS hl => va_astq X.ex X.by' X.ka hP hD hS q0 t0 qk ci ha ht hv hc hin hd (fun H1 locs1 hP hD hS => kk H1 locs1 ls (hw ▸ hP) (hw ▸ hD) hS hl)
/-- a String constant -/
theorem g_ldcS (X : Cx p s m args meth c cc nL ret own Z A) {tx : String} {i j : Nat} (hq : (own, i, tx, j) ∈ gStr) (hd : decode cc pc = .ok (.ldc i, 2)) (kk : Gs p l e R s m args below meth c Q Z A nL k n (pc + 2) lv (.ref (Z.2.2.1 j) :: st) ws) : Gs p l e R s m args below meth c Q Z A nL k n pc lv st ws := fun H locs ls hP hD hS hl => va_ldcS X.ex X.by' X.ow (X.gk.2.2.2 _ hq) hd (kk H locs ls hP hD hS hl)
theorem g_aastS (X : Cx p s m args meth c cc nL ret own Z A) (q0 j : Nat) (hj : j < 5) {a N : Nat} {f : Nat → Option Nat} {i : Int32} (ha : ws[q0]? = some (a, .inl (Z.2.1 7, N, .inr (.inr (.inr (.inr f)))))) (hin : vp_in i N) {ws' : va_W} (hw : ws.set q0 (a, .inl (Z.2.1 7, N, .inr (.inr (.inr (.inr (va_up f i.toNatClampNeg (some (Z.2.2.1 j)))))))) = ws') (hd : decode cc pc = .ok (.aastore, 1)) (kk : Gs p l e R s m args below meth c Q Z A nL k n (pc + 1) lv st ws') : Gs p l e R s m args below meth c Q Z A nL k n pc lv (.ref (Z.2.2.1 j) :: .int i :: .ref a :: st) ws := fun H locs ls hP hD hS hl => va_astqM (E := "java/lang/String") X.ex X.by' X.ka hP hD hS q0 7 ha rfl (by
  obtain ⟨cell, h1, h2, h3, h4⟩ := (X.gs.1 j hj).1
  obtain ⟨kC, hkC, -⟩ := Vm.findClass_spec h3
  exact ⟨cell, by rw [hS.2.1 _ (Array.getElem?_eq_some_iff.mp h1).1 h4]; exact h1, h2, ⟨kC, hkC⟩, fun comp h => by cases h3.symm.trans h; exact va_asg _ _⟩) hin hd (fun H1 locs1 hP hD hS => kk H1 locs1 ls (hw ▸ hP) (hw ▸ hD) hS hl)
theorem g_lit {x y : Int32} (h : x = y) (kk : Gs p l e R s m args below meth c Q Z A nL k n pc lv (.int y :: st) ws) : Gs p l e R s m args below meth c Q Z A nL k n pc lv (.int x :: st) ws := by subst h; exact kk
theorem g_litl {x y : Int64} (h : x = y) (kk : Gs p l e R s m args below meth c Q Z A nL k n pc lv (.long y :: st) ws) : Gs p l e R s m args below meth c Q Z A nL k n pc lv (.long x :: st) ws := by subst h; exact kk
theorem g_left {w1 w2 : va_W} (kk : Gs p l e R s m args below meth c Q Z A nL k n pc lv st w1) : Gs p l e R s m args below meth c Q Z A nL k n pc lv st (w1 ++ w2) := fun H locs ls hP hD hS hl => kk H locs ls (fun i q hq => hP i q (by rw [List.getElem?_append_left (List.getElem?_eq_some_iff.mp hq).1]; exact hq)) ⟨fun i j x y hx hy h => hD.1 i j x y (by rw [List.getElem?_append_left (List.getElem?_eq_some_iff.mp hx).1]; exact hx) (by rw [List.getElem?_append_left (List.getElem?_eq_some_iff.mp hy).1]; exact hy) h, fun i q hq => hD.2 i q (by rw [List.getElem?_append_left (List.getElem?_eq_some_iff.mp hq).1]; exact hq)⟩ hS hl
/-- a store whose row is known no more -/
theorem g_iastF (X : Cx p s m args meth c cc nL ret own Z A) (q0 : Nat) {a N : Nat} {f : Nat → Int32} {i x : Int32} (ha : ws[q0]? = some (a, .inl (Z.2.1 0, N, .inl f))) (hin : vp_in i N) {ws' : (Nat → Int32) → va_W} (hw : ∀ g : Nat → Int32, ws.set q0 (a, .inl (Z.2.1 0, N, .inl g)) = ws' g) (hd : decode cc pc = .ok (.iastore, 1)) (kk : ∀ g : Nat → Int32, Gs p l e R s m args below meth c Q Z A nL k n (pc + 1) lv st (ws' g)) : Gs p l e R s m args below meth c Q Z A nL k n pc lv (.int x :: .int i :: .ref a :: st) ws := g_iast X q0 ha hin (hw _) hd (kk _)
/-- a store whose row is known no more -/
theorem g_bastF (X : Cx p s m args meth c cc nL ret own Z A) (q0 : Nat) {a N : Nat} {f : Nat → Int32} {i x : Int32} (ha : ws[q0]? = some (a, .inl (Z.2.1 1, N, .inl f))) (hin : vp_in i N) {ws' : (Nat → Int32) → va_W} (hw : ∀ g : Nat → Int32, ws.set q0 (a, .inl (Z.2.1 1, N, .inl g)) = ws' g) (hd : decode cc pc = .ok (.bastore, 1)) (kk : ∀ g : Nat → Int32, Gs p l e R s m args below meth c Q Z A nL k n (pc + 1) lv st (ws' g)) : Gs p l e R s m args below meth c Q Z A nL k n pc lv (.int x :: .int i :: .ref a :: st) ws := g_bast X q0 ha hin (hw _) hd (kk _)
/-- a store whose row is known no more -/
theorem g_zastF (X : Cx p s m args meth c cc nL ret own Z A) (q0 : Nat) {a N : Nat} {f : Nat → Int32} {i x : Int32} (ha : ws[q0]? = some (a, .inl (Z.2.1 2, N, .inl f))) (hin : vp_in i N) {ws' : (Nat → Int32) → va_W} (hw : ∀ g : Nat → Int32, ws.set q0 (a, .inl (Z.2.1 2, N, .inl g)) = ws' g) (hd : decode cc pc = .ok (.bastore, 1)) (kk : ∀ g : Nat → Int32, Gs p l e R s m args below meth c Q Z A nL k n (pc + 1) lv st (ws' g)) : Gs p l e R s m args below meth c Q Z A nL k n pc lv (.int x :: .int i :: .ref a :: st) ws := g_zast X q0 ha hin (hw _) hd (kk _)
end GROWH
end
section
theorem lv_args_is (as : List Value) (lv : List (Nat × Value)) (h : lv_args 0 as = lv) : lv_args 0 as = lv := h
section GCALL
variable {p : Program} {l : Launch} {e : Env} {R : Room} {s : State} {m : MethodId} {args : Array Value} {below : List Frame} {meth : Method} {c : Code} {Q : State → Prop} {Z : gZ} {A : Nat → Prop} {nL k n pc : Nat} {lv : List (Nat × Value)} {st : List Value} {ws : va_W} {cc : ByteArray} {ret : Option FieldType} {own : String}
/-- int[n][k]: the outer row, then its inner ones -/
theorem g_mna (X : Cx p s m args meth c cc nL ret own Z A) {x y : Int32} {i : Nat} (N K : Nat) (hcl : Cond.classLink own i "[[I" ∈ wU) (hx : ¬ x < 0) (hy : ¬ y < 0) (hN : x.toNatClampNeg = N) (hK : y.toNatClampNeg = K) (hb1 : N ≤ 100000) (hb2 : K ≤ 100000) (hcells : k + (1 + N) ≤ R.cells) (hslots : n + (N + N * K) ≤ R.slots) (hd : decode cc pc = .ok (.multianewarray i 2, 4))
    (kk : ∀ q : Nat, Gs p l e R s m args below meth c Q Z A nL (k + 1 + N) (n + N + N * K) (pc + 4) lv (.ref q :: st) (ws ++ (q, .inl (Z.2.1 6, N, .inr (.inr (.inr (.inr (fun j => if j < N then some (q + 1 + j) else none)))))) :: (List.range N).map (fun j => (q + 1 + j, .inl (Z.2.1 0, K, .inl (fun _ => 0)))))) : Gs p l e R s m args below meth c Q Z A nL k n pc lv (.int y :: .int x :: st) ws := by
  subst hN
  subst hK
  intro H locs ls hP hD hS hl T hT XT
  obtain ⟨vm₁, XF, step⟩ := mg_step XT X.ex X.ow (X.ts _ hcl) X.gk.2.2.1.2.2.2.2 (g := F0 m pc ls (.int y :: .int x :: st)) rfl (by rw [X.by']; exact hd) rfl hx hy hb1 hb2 hcells hslots
  have hsz : (T.setVm vm₁).heap.size = H.size := by show T.heap.size = _; rw [hT]
  have hTh : ∀ a : Nat, (T.setVm vm₁).heap[a]? = H[a]? := fun a => by show T.heap[a]? = _; rw [hT]
  generalize hF : mgF (T.setVm vm₁) (Z.2.1 6) (Z.2.1 0) x.toNatClampNeg y.toNatClampNeg x.toNatClampNeg = F at XF step
  have hold : ∀ a : Nat, a < H.size → F.heap[a]? = H[a]? := fun a ha => by rw [← hF, mgF_old _ _ _ _ _ (by rw [hsz]; exact ha), hTh]
  have hhead : F.heap[H.size]? = some (mgC (Z.2.1 6) x.toNatClampNeg H.size x.toNatClampNeg) := by rw [← hF, ← hsz]; exact mgF_head _ _ _ _ _ _
  have hrow : ∀ j : Nat, j < x.toNatClampNeg → F.heap[H.size + 1 + j]? = some (mgR (Z.2.1 0) y.toNatClampNeg) := fun j hj => by rw [← hF, ← hsz]; exact mgF_row _ _ _ _ _ _ j hj
  have hbig : F.heap.size = H.size + 1 + x.toNatClampNeg := by rw [← hF, mgF_size, hsz]
  have hcellAt : ∀ (a : Nat) (q : Nat × va_E), ((H.size, .inl (Z.2.1 6, x.toNatClampNeg, .inr (.inr (.inr (.inr (fun j => if j < x.toNatClampNeg then some (H.size + 1 + j) else none)))))) :: (List.range x.toNatClampNeg).map (fun j => ((H.size + 1 + j, .inl (Z.2.1 0, y.toNatClampNeg, .inl (fun _ => 0))) : Nat × va_E)))[a]? = some q → q.1 = H.size + a ∧ va_at Z.1 vwCl q F.heap := by
    intro a q hq
    cases a with
    | zero =>
      cases hq
      refine ⟨rfl, ?_⟩
      show F.heap[H.size]? = some (vp_cell _ _)
      rw [vp_cell_q]
      exact hhead
    | succ a =>
      rw [List.getElem?_cons_succ, List.getElem?_map] at hq
      by_cases ha : a < x.toNatClampNeg
      · rw [List.getElem?_range ha] at hq
        cases hq
        refine ⟨by show H.size + 1 + a = _; omega, ?_⟩
        show F.heap[H.size + 1 + a]? = some (vp_cell _ _)
        rw [hrow a ha]
        rfl
      · rw [List.getElem?_eq_none (by rw [List.length_range]; omega)] at hq
        cases hq
  obtain ⟨t, a1, b1⟩ := kk H.size F.heap locs ls ((hP.kept (fun a q hq => hold q.1 ((hP a q hq).lt))).app (fun a q hq => (hcellAt a q hq).2)) (va_D.app hD ⟨fun a b q r hq hr h => by have := (hcellAt a q hq).1; have := (hcellAt b r hr).1; omega, fun a q hq => X.ha _ (by have := (hcellAt a q hq).1; have := hS.1; omega)⟩ (fun a b q r hq hr h => by have := (hcellAt b r hr).1; have := (hP a q hq).lt; omega)) ⟨by rw [hbig]; have := hS.1; omega, fun a h1 h2 => (hold a (Nat.lt_of_lt_of_le h1 hS.1)).trans (hS.2.1 a h1 h2), hS.2.2⟩ hl F rfl XF
  refine ⟨t, step t ?_, b1⟩
  rw [show T.heap.size = H.size by rw [hT]]
  exact a1
theorem enter {y : MethodName} {fr lo mc ms : Nat} {as : List Value} {w : va_W} {Po : Option Value → va_W → Prop} (hy : plainName y.cls = true) (hn : (lg_sl as).length ≤ nL)
    (body : ∀ (p : Program) (e : Env) (s : State) (m : MethodId) (args : Array Value) (below : List Frame) (meth : Method) (c : Code) (A : Nat → Prop), Cx p s m args meth c cc nL ret y.cls Z A → meth.name = y.name → va_A w s.heap.size = A → Gs p l e { frames := fr, cells := mc, slots := ms, locals := lo } s m args below meth c (MQ below (gPost Z w s.heap.size Po) args s mc ms (va_A w s.heap.size)) Z A nL 0 0 0 (lv_args 0 as) [] w) : Con l Z y cc nL ret fr lo mc ms as w Po := by
  intro sz
  refine Met.ofW (cc := cc) (maxL := nL) (ret := ret) hy rfl ?_
  intro p e s m args below meth c s₁ B hml hv
  obtain ⟨rfl, hsz, hP, hK, hSt, hD⟩ := hv
  subst hsz
  have hts := atoms_spec (ws := Cond.code y cc nL ret :: wU) B.pre
  have hC : Cx p s m as.toArray meth c cc nL ret y.cls Z (va_A w s.heap.size) := ⟨B.exec, B.bytes, B.returns, hml, findClass_of_methodNamed B.named, fun w h => hts w (List.mem_cons_of_mem _ h), hK, hSt, B.notSynchronized, fun q h => Or.inr h⟩
  have h := body p e s m as.toArray below meth c _ hC (name_of_methodNamed B.named B.method).1 rfl
  rw [lg_entry_eq]
  exact h s.heap [] _ hP hD.self va_S.rf (lv_entry as hn)
theorem g_iret {w : va_W} {Po : Option Value → va_W → Prop} {mc ms : Nat} (X : Cx p s m args meth c cc nL (some .int) own Z A) (hA : va_A w s.heap.size = A) {v : Int32} (hPo : Po (some (.int v)) ws) (hk : k ≤ mc) (hn : n ≤ ms) (hd : decode cc pc = .ok (.ireturn, 1)) : Gs p l e R s m args below meth c (MQ below (gPost Z w s.heap.size Po) args s mc ms (va_A w s.heap.size)) Z A nL k n pc lv [.int v] ws := by
  subst hA
  exact fun H locs ls hP hD hS hl => W.widen hk hn (W.iret X.ex X.by' X.re (fun t ht hW => ⟨⟨_, ws, rfl, hPo, by rw [ht]; exact hP, hD⟩, hS.F ht⟩) hS.2.2 hd X.lk)
theorem g_zret {w : va_W} {Po : Option Value → va_W → Prop} {mc ms : Nat} (X : Cx p s m args meth c cc nL (some .boolean) own Z A) (hA : va_A w s.heap.size = A) {v : Int32} (hv : narrow .boolean (.int v) = .int v) (hPo : Po (some (.int v)) ws) (hk : k ≤ mc) (hn : n ≤ ms) (hd : decode cc pc = .ok (.ireturn, 1)) : Gs p l e R s m args below meth c (MQ below (gPost Z w s.heap.size Po) args s mc ms (va_A w s.heap.size)) Z A nL k n pc lv [.int v] ws := by
  subst hA
  exact fun H locs ls hP hD hS hl => W.widen hk hn (W.zret X.ex X.by' X.re hv (fun t ht hW => ⟨⟨_, ws, rfl, hPo, by rw [ht]; exact hP, hD⟩, hS.F ht⟩) hS.2.2 hd X.lk)
theorem g_vret {w : va_W} {Po : Option Value → va_W → Prop} {mc ms : Nat} (X : Cx p s m args meth c cc nL none own Z A) (hA : va_A w s.heap.size = A) (hPo : Po none ws) (hk : k ≤ mc) (hn : n ≤ ms) (hd : decode cc pc = .ok (.return_, 1)) : Gs p l e R s m args below meth c (MQ below (gPost Z w s.heap.size Po) args s mc ms (va_A w s.heap.size)) Z A nL k n pc lv [] ws := by
  subst hA
  exact fun H locs ls hP hD hS hl => W.widen hk hn (W.vret X.ex X.by' X.re (fun t ht hW => ⟨⟨_, ws, rfl, hPo, by rw [ht]; exact hP, hD⟩, hS.F ht⟩) hS.2.2 hd X.lk)
theorem g_aret {w : va_W} {Po : Option Value → va_W → Prop} {mc ms : Nat} {rt : FieldType} (X : Cx p s m args meth c cc nL (some rt) own Z A) (hrt : (∃ n, rt = .object n) ∨ ∃ t, rt = .array t) (hA : va_A w s.heap.size = A) {v : Value} (hv : v = .null ∨ ∃ a, v = .ref a) (hPo : Po (some v) ws) (hk : k ≤ mc) (hn : n ≤ ms) (hd : decode cc pc = .ok (.areturn, 1)) : Gs p l e R s m args below meth c (MQ below (gPost Z w s.heap.size Po) args s mc ms (va_A w s.heap.size)) Z A nL k n pc lv [v] ws := by
  subst hA
  exact fun H locs ls hP hD hS hl => W.widen hk hn (W.aret X.ex X.by' X.re hrt hv (fun t ht hW => ⟨⟨_, ws, rfl, hPo, by rw [ht]; exact hP, hD⟩, hS.F ht⟩) hS.2.2 hd X.lk)
/-- a method's own words -/
def gM (y : MethodName) (yc : ByteArray) (yL : Nat) (yr : Option FieldType) (ar : Nat) : Prop := Cond.code y yc yL yr ∈ wU ∧ Cond.initialized y.cls ∈ wU ∧ (y.cls ≠ "java/lang/invoke/MethodHandle" ∧ y.cls ≠ "java/lang/invoke/VarHandle" ∧ (parseMethodDescriptor y.desc).map (fun d => d.parameters.length) = some ar)
theorem g_pre {w : va_W} {as : List Value} {H : Heap} {locs : List Loc} (X : Cx p s m args meth c cc nL ret own Z A) (hP : va_P Z.1 vwCl ws H) (hD : va_D A ws) (hS : va_S A s.heap H locs) (isC : List Nat) (hnC : va_nd isC = true) (hC : isC.map (fun i => ws[i]?) = w.map some) : FrameBlind (gPre Z as w H.size) ∧ ∀ U : State, U.heap = H → s.WarmedH U.vm → gPre Z as w H.size as.toArray U := by
  refine ⟨fun a U g mk q => ⟨q.1, q.2.1, q.2.2.1, gK.same rfl q.2.2.2.1, vk_S.moved (u := U) (Vm.Alike.refl U.vm) q.2.2.2.2.1, q.2.2.2.2.2⟩, fun U hU hW => ?_⟩
  have hDw := hD.sub isC hnC hC
  have hPw : va_P Z.1 vwCl w H := gPw hP isC hC
  exact ⟨rfl, by rw [hU], by rw [hU]; exact hPw, gK.warm hW X.gk, by rw [hU]; exact vk_S.moved hW.alike ((vk_S.kept X.gs hS.2.1).narrow (va_free hD hS X.ha isC hC)), hDw.weaken (fun _ _ _ _ => trivial)⟩
theorem g_run {w wr : va_W} {Po : Option Value → va_W → Prop} {mc ms : Nat} {av : Array Value} {rest : List Value} (X : Cx p s m args meth c cc nL ret own Z A) (isC isR : List Nat) (hnC : va_nd isC = true) (hC : isC.map (fun i => ws[i]?) = w.map some) (hR : isR.map (fun i => ws[i]?) = wr.map some) (hnR : va_nd isR = true) (hdis : ∀ i ∈ isR, i ∉ isC)
    (hr : ∀ (H : Heap) (locs : List Loc) (ls : Array Slot), va_P Z.1 vwCl ws H → va_D A ws → va_S A s.heap H locs → lv_has ls nL lv → va_Run p l e R s m args below meth c H locs k n mc ms (F0 m pc ls st) rest (gPost Z w H.size Po av) (va_A w H.size))
    (kk : ∀ (r : Option Value) (w' : va_W), Po r w' → Gs p l e R s m args below meth c Q Z A nL (k + mc) (n + ms) (pc + 3) lv (r.toList ++ rest) (wr ++ w')) : Gs p l e R s m args below meth c Q Z A nL k n pc lv st ws := by
  intro H locs ls hP hD hS hl T hT XT
  have hF := va_free (wc := w) hD hS X.ha isC hC
  obtain ⟨v, st₀, t, T', L, h0, X', hL, e1, e2, ⟨⟨r, w', hv, hp, hP1, hD1⟩, hz, hk⟩, stp⟩ := hr H locs ls hP hD hS hl T hT XT
  cases hv
  rw [h0] at hz hk
  have hk' : ∀ q : Nat, q < H.size → ¬ va_A w H.size q → T'.heap[q]? = H[q]? := fun q a b => by rw [e1]; exact hk q a b
  obtain ⟨hP2, hD2⟩ := va_join hP hD isC isR hC hR hnR hdis hk' hF (by rw [e1]; exact hP1) hD1
  have hS2 : va_S A s.heap T'.heap (locs ++ L) := ⟨Nat.le_trans hS.1 (by rw [e1]; exact hz), fun q a b => by rw [hk' q (Nat.lt_of_lt_of_le a hS.1) (fun z => b (hF q z))]; exact hS.2.1 q a b, fun q hq => (List.mem_append.mp hq).elim (hS.2.2 q) (fun h => hF _ (hL q h))⟩
  obtain ⟨t2, a1, b1⟩ := kk _ w' hp T'.heap (locs ++ L) ls hP2 hD2 hS2 hl T' rfl X'
  exact ⟨t2, stp t2 a1, b1⟩
section
variable {y : MethodName} {yc : ByteArray} {yL ar i fr lo mc ms : Nat} {yr : Option FieldType} {w wr : va_W} {Po : Option Value → va_W → Prop} {As rest : List Value} {b : Nat}
theorem g_callS (X : Cx p s m args meth c cc nL ret own Z A) (hM : Con l Z y yc yL yr fr lo mc ms As w Po) (hm : gM y yc yL yr ar) (hl : Cond.methodLink own i y ∈ wU) (hs : Cond.static y ∈ wU) (isC isR : List Nat) (hC : isC.map (fun i => ws[i]?) = w.map some) (hR : isR.map (fun i => ws[i]?) = wr.map some) (hnd : va_nd isC = true ∧ va_nd isR = true ∧ ∀ i ∈ isR, i ∉ isC) (hn : As.length = ar) (hst : st = As.reverse ++ rest) (hw : (rest.map fun v => v.category).sum ≤ 8) (hroom : fr + 1 ≤ R.frames ∧ 8 + (yL + 11) + lo ≤ R.locals ∧ k + mc ≤ R.cells ∧ n + ms ≤ R.slots) (hd : decode cc pc = .ok (.invokestatic i, 3)) (kk : ∀ (r : Option Value) (w' : va_W), Po r w' → Gs p l e R s m args below meth c Q Z A nL (k + mc) (n + ms) (pc + 3) lv (r.toList ++ rest) (wr ++ w')) : Gs p l e R s m args below meth c Q Z A nL k n pc lv st ws :=
  g_run X isC isR hnd.1 hC hR hnd.2.1 hnd.2.2 (fun H locs ls hP hD hS hl' => va_runS ⟨X.ex, X.by', X.ml, X.ow, X.ts⟩ (hM H.size) ⟨callB_of ar X.ts (gGood hm.1) rfl rfl rfl (X.ts _ hm.2.1) (X.ts _ hl) hm.2.2 ⟨hroom.1, hroom.2.1⟩, X.ts _ hs⟩ (g_pre X hP hD hS isC hnd.1 hC) rfl hn hl'.1 hst (lv_room hw) hd hroom.2.2) kk
theorem g_callSN (X : Cx p s m args meth c cc nL ret own Z A) (hM : Con l Z y yc yL yr fr lo mc ms As w Po) (hm : gM y yc yL yr ar) (hl : (own, i, y) ∈ gNest) (hs : Cond.static y ∈ wU) (isC isR : List Nat) (hC : isC.map (fun i => ws[i]?) = w.map some) (hR : isR.map (fun i => ws[i]?) = wr.map some) (hnd : va_nd isC = true ∧ va_nd isR = true ∧ ∀ i ∈ isR, i ∉ isC) (hn : As.length = ar) (hst : st = As.reverse ++ rest) (hw : (rest.map fun v => v.category).sum ≤ 8) (hroom : fr + 1 ≤ R.frames ∧ 8 + (yL + 11) + lo ≤ R.locals ∧ k + mc ≤ R.cells ∧ n + ms ≤ R.slots) (hd : decode cc pc = .ok (.invokestatic i, 3)) (kk : ∀ (r : Option Value) (w' : va_W), Po r w' → Gs p l e R s m args below meth c Q Z A nL (k + mc) (n + ms) (pc + 3) lv (r.toList ++ rest) (wr ++ w')) : Gs p l e R s m args below meth c Q Z A nL k n pc lv st ws :=
  g_run X isC isR hnd.1 hC hR hnd.2.1 hnd.2.2 (fun H locs ls hP hD hS hl' => va_runSN ⟨X.ex, X.by', X.ml, X.ow, X.ts⟩ (hM H.size) ⟨va_cnB ar X.ts (gGood hm.1) rfl rfl rfl (X.gk.2.1 _ hl) (X.ts _ hm.2.1) hm.2.2 ⟨hroom.1, hroom.2.1⟩, X.ts _ hs, trivial⟩ (g_pre X hP hD hS isC hnd.1 hC) rfl hn hl'.1 hst (lv_room hw) hd hroom.2.2) kk
theorem g_callV (X : Cx p s m args meth c cc nL ret own Z A) (hM : Con l Z y yc yL yr fr lo mc ms (.ref b :: As) w Po) (hm : gM y yc yL yr ar) (hl : Cond.methodLink own i y ∈ wU) (hin : Cond.instanceMethod y ∈ wU) (hse : Cond.selects y.cls y y ∈ wU) (q0 : Nat) {ci : Nat} {fs : List Value} {T : u_T} {N : Nat} (hq : ws[q0]? = some (b, .inr (ci, fs))) (hcl : vwCl[ci]? = some (y.cls, T, N)) (isC isR : List Nat) (hC : isC.map (fun i => ws[i]?) = w.map some) (hR : isR.map (fun i => ws[i]?) = wr.map some) (hnd : va_nd isC = true ∧ va_nd isR = true ∧ ∀ i ∈ isR, i ∉ isC) (hn : As.length = ar) (hst : st = As.reverse ++ .ref b :: rest) (hw : (rest.map fun v => v.category).sum ≤ 8) (hroom : fr + 1 ≤ R.frames ∧ 8 + (yL + 11) + lo ≤ R.locals ∧ k + mc ≤ R.cells ∧ n + ms ≤ R.slots) (hd : decode cc pc = .ok (.invokevirtual i, 3)) (kk : ∀ (r : Option Value) (w' : va_W), Po r w' → Gs p l e R s m args below meth c Q Z A nL (k + mc) (n + ms) (pc + 3) lv (r.toList ++ rest) (wr ++ w')) : Gs p l e R s m args below meth c Q Z A nL k n pc lv st ws :=
  g_run X isC isR hnd.1 hC hR hnd.2.1 hnd.2.2 (fun H locs ls hP hD hS hl' => va_runV ⟨X.ex, X.by', X.ml, X.ow, X.ts⟩ (hM H.size) ⟨callB_of ar X.ts (gGood hm.1) rfl rfl rfl (X.ts _ hm.2.1) (X.ts _ hl) hm.2.2 ⟨hroom.1, hroom.2.1⟩, X.ts _ hin, X.ts _ hse⟩ ⟨(g_pre X hP hD hS isC hnd.1 hC).1, va_recv X.ka hP hcl hq, (g_pre X hP hD hS isC hnd.1 hC).2⟩ rfl hn hl'.1 hst (lv_room hw) hd hroom.2.2) kk
theorem g_callI (X : Cx p s m args meth c cc nL ret own Z A) (hM : Con l Z y yc yL none fr lo mc ms (.ref b :: As) w Po) (hm : gM y yc yL none ar) (hy : y.name = "<init>") (hl : Cond.methodLink own i y ∈ wU) (hin : Cond.instanceMethod y ∈ wU) (isC isR : List Nat) (hC : isC.map (fun i => ws[i]?) = w.map some) (hR : isR.map (fun i => ws[i]?) = wr.map some) (hnd : va_nd isC = true ∧ va_nd isR = true ∧ ∀ i ∈ isR, i ∉ isC) (hn : As.length = ar) (hst : st = As.reverse ++ .ref b :: rest) (hw : (rest.map fun v => v.category).sum ≤ 8) (hroom : fr + 1 ≤ R.frames ∧ 8 + (yL + 11) + lo ≤ R.locals ∧ k + mc ≤ R.cells ∧ n + ms ≤ R.slots) (hd : decode cc pc = .ok (.invokespecial i, 3)) (kk : ∀ (r : Option Value) (w' : va_W), Po r w' → Gs p l e R s m args below meth c Q Z A nL (k + mc) (n + ms) (pc + 3) lv (r.toList ++ rest) (wr ++ w')) : Gs p l e R s m args below meth c Q Z A nL k n pc lv st ws :=
  g_run X isC isR hnd.1 hC hR hnd.2.1 hnd.2.2 (fun H locs ls hP hD hS hl' => va_runI ⟨X.ex, X.by', X.ml, X.ow, X.ts⟩ (hM H.size) ⟨callB_of ar X.ts (gGood hm.1) rfl rfl rfl (X.ts _ hm.2.1) (X.ts _ hl) hm.2.2 ⟨hroom.1, hroom.2.1⟩, hy, X.ts _ hin⟩ (g_pre X hP hD hS isC hnd.1 hC) rfl hn hl'.1 hst (lv_room hw) hd hroom.2.2) kk
end
end GCALL
end
section
theorem iM_X0_init : gM yX0_init cX0_init 1 none 0 := ⟨mw_6_1, mw_2_23, by decide +kernel, by decide +kernel, by decide +kernel⟩
theorem iM_X10_clear : gM yX10_clear cX10_clear 1 none 0 := ⟨mw_16_3, mw_6_10, by decide +kernel, by decide +kernel, by decide +kernel⟩
theorem iM_X10_init : gM yX10_init cX10_init 1 none 0 := ⟨mw_6_23, mw_6_10, by decide +kernel, by decide +kernel, by decide +kernel⟩
theorem iM_X11_all : gM yX11_all cX11_all 4 (some .int) 1 := ⟨mw_50_21, mw_1_2, by decide +kernel, by decide +kernel, by decide +kernel⟩
theorem iM_X11_batch : gM yX11_batch cX11_batch 3 (some .int) 2 := ⟨mw_47_2, mw_1_2, by decide +kernel, by decide +kernel, by decide +kernel⟩
theorem iM_X11_best : gM yX11_best cX11_best 7 (some .int) 4 := ⟨mw_43_4, mw_1_2, by decide +kernel, by decide +kernel, by decide +kernel⟩
theorem iM_X11_border : gM yX11_border cX11_border 5 (some .int) 3 := ⟨mw_53_6, mw_1_2, by decide +kernel, by decide +kernel, by decide +kernel⟩
theorem iM_X11_count : gM yX11_count cX11_count 2 (some .int) 1 := ⟨mw_56_13, mw_1_2, by decide +kernel, by decide +kernel, by decide +kernel⟩
theorem iM_X11_cuts : gM yX11_cuts cX11_cuts 3 (some .int) 1 := ⟨mw_46_12, mw_1_2, by decide +kernel, by decide +kernel, by decide +kernel⟩
theorem iM_X11_day : gM yX11_day cX11_day 7 (some .int) 5 := ⟨mw_53_20, mw_1_2, by decide +kernel, by decide +kernel, by decide +kernel⟩
theorem iM_X11_done : gM yX11_done cX11_done 7 (some .int) 4 := ⟨mw_32_11, mw_1_2, by decide +kernel, by decide +kernel, by decide +kernel⟩
theorem iM_X11_end : gM yX11_end cX11_end 2 (some .boolean) 1 := ⟨mw_11_2, mw_1_2, by decide +kernel, by decide +kernel, by decide +kernel⟩
theorem iM_X11_fault : gM yX11_fault cX11_fault 1 (some .int) 0 := ⟨mw_11_19, mw_1_2, by decide +kernel, by decide +kernel, by decide +kernel⟩
theorem iM_X11_faults : gM yX11_faults cX11_faults 4 (some .int) 2 := ⟨mw_38_15, mw_1_2, by decide +kernel, by decide +kernel, by decide +kernel⟩
theorem iM_X11_feed : gM yX11_feed cX11_feed 6 (some .int) 5 := ⟨mw_10_2, mw_1_2, by decide +kernel, by decide +kernel, by decide +kernel⟩
theorem iM_X11_hang : gM yX11_hang cX11_hang 3 (some .int) 2 := ⟨mw_55_9, mw_1_2, by decide +kernel, by decide +kernel, by decide +kernel⟩
theorem iM_X11_height : gM yX11_height cX11_height 4 (some .int) 2 := ⟨mw_30_10, mw_1_2, by decide +kernel, by decide +kernel, by decide +kernel⟩
theorem iM_X11_image : gM yX11_image cX11_image 2 (some .boolean) 1 := ⟨mw_55_17, mw_1_2, by decide +kernel, by decide +kernel, by decide +kernel⟩
theorem iM_X11_init : gM yX11_init cX11_init 1 none 0 := ⟨mw_1_8, mw_1_2, by decide +kernel, by decide +kernel, by decide +kernel⟩
theorem iM_X11_isFrom : gM yX11_isFrom cX11_isFrom 3 (some .boolean) 3 := ⟨mw_11_8, mw_1_2, by decide +kernel, by decide +kernel, by decide +kernel⟩
theorem iM_X11_keep : gM yX11_keep cX11_keep 5 (some .int) 3 := ⟨mw_51_5, mw_1_2, by decide +kernel, by decide +kernel, by decide +kernel⟩
theorem iM_X11_lay : gM yX11_lay cX11_lay 4 (some .boolean) 1 := ⟨mw_23_12, mw_1_2, by decide +kernel, by decide +kernel, by decide +kernel⟩
theorem iM_X11_left : gM yX11_left cX11_left 4 (some .int) 3 := ⟨mw_38_5, mw_1_2, by decide +kernel, by decide +kernel, by decide +kernel⟩
theorem iM_X11_mended : gM yX11_mended cX11_mended 3 (some .int) 2 := ⟨mw_51_19, mw_1_2, by decide +kernel, by decide +kernel, by decide +kernel⟩
theorem iM_X11_of : gM yX11_of cX11_of 4 (some .int) 2 := ⟨mw_22_16, mw_1_2, by decide +kernel, by decide +kernel, by decide +kernel⟩
theorem iM_X11_on : gM yX11_on cX11_on 2 (some .boolean) 1 := ⟨mw_56_5, mw_1_2, by decide +kernel, by decide +kernel, by decide +kernel⟩
theorem iM_X11_own : gM yX11_own cX11_own 3 (some .int) 2 := ⟨mw_50_13, mw_1_2, by decide +kernel, by decide +kernel, by decide +kernel⟩
theorem iM_X11_paper : gM yX11_paper cX11_paper 6 (some .int) 5 := ⟨mw_31_1, mw_1_2, by decide +kernel, by decide +kernel, by decide +kernel⟩
theorem iM_X11_paperAt : gM yX11_paperAt cX11_paperAt 2 (some (.object "HalfDrop$Paper")) 1 := ⟨mw_23_18, mw_1_2, by decide +kernel, by decide +kernel, by decide +kernel⟩
theorem iM_X11_piece : gM yX11_piece cX11_piece 4 (some .int) 3 := ⟨mw_33_19, mw_1_2, by decide +kernel, by decide +kernel, by decide +kernel⟩
theorem iM_X11_rolls : gM yX11_rolls cX11_rolls 3 (some .int) 2 := ⟨mw_36_18, mw_1_2, by decide +kernel, by decide +kernel, by decide +kernel⟩
theorem iM_X11_room : gM yX11_room cX11_room 1 (some .int) 0 := ⟨mw_22_7, mw_1_2, by decide +kernel, by decide +kernel, by decide +kernel⟩
theorem iM_X11_roomAt : gM yX11_roomAt cX11_roomAt 2 (some (.object "HalfDrop$Room")) 1 := ⟨mw_23_7, mw_1_2, by decide +kernel, by decide +kernel, by decide +kernel⟩
theorem iM_X11_run : gM yX11_run cX11_run 5 (some .int) 3 := ⟨mw_45_22, mw_1_2, by decide +kernel, by decide +kernel, by decide +kernel⟩
theorem iM_X11_shared : gM yX11_shared cX11_shared 3 (some .int) 2 := ⟨mw_47_17, mw_1_2, by decide +kernel, by decide +kernel, by decide +kernel⟩
theorem iM_X11_shown : gM yX11_shown cX11_shown 4 (some .int) 2 := ⟨mw_44_11, mw_1_2, by decide +kernel, by decide +kernel, by decide +kernel⟩
theorem iM_X11_strip : gM yX11_strip cX11_strip 4 (some .int) 3 := ⟨mw_33_1, mw_1_2, by decide +kernel, by decide +kernel, by decide +kernel⟩
theorem iM_X11_trim : gM yX11_trim cX11_trim 2 (some .boolean) 1 := ⟨mw_32_3, mw_1_2, by decide +kernel, by decide +kernel, by decide +kernel⟩
theorem iM_X12_all : gM yX12_all cX12_all 4 (some .int) 1 := ⟨mw_51_1, mw_1_5, by decide +kernel, by decide +kernel, by decide +kernel⟩
theorem iM_X12_areCuts : gM yX12_areCuts cX12_areCuts 3 (some .boolean) 2 := ⟨mw_45_13, mw_1_5, by decide +kernel, by decide +kernel, by decide +kernel⟩
theorem iM_X12_batch : gM yX12_batch cX12_batch 3 (some .int) 2 := ⟨mw_47_11, mw_1_5, by decide +kernel, by decide +kernel, by decide +kernel⟩
theorem iM_X12_best : gM yX12_best cX12_best 11 (some .int) 4 := ⟨mw_44_6, mw_1_5, by decide +kernel, by decide +kernel, by decide +kernel⟩
theorem iM_X12_between : gM yX12_between cX12_between 4 (some .boolean) 3 := ⟨mw_20_7, mw_1_5, by decide +kernel, by decide +kernel, by decide +kernel⟩
theorem iM_X12_border : gM yX12_border cX12_border 6 (some .int) 3 := ⟨mw_53_15, mw_1_5, by decide +kernel, by decide +kernel, by decide +kernel⟩
theorem iM_X12_count : gM yX12_count cX12_count 2 (some .int) 1 := ⟨mw_56_19, mw_1_5, by decide +kernel, by decide +kernel, by decide +kernel⟩
theorem iM_X12_cuts_ : gM yX12_cuts_ cX12_cuts_ 6 (some .int) 1 := ⟨mw_46_22, mw_1_5, by decide +kernel, by decide +kernel, by decide +kernel⟩
theorem iM_X12_day : gM yX12_day cX12_day 20 (some .int) 5 := ⟨mw_55_0, mw_1_5, by decide +kernel, by decide +kernel, by decide +kernel⟩
theorem iM_X12_done : gM yX12_done cX12_done 5 (some .int) 4 := ⟨mw_32_17, mw_1_5, by decide +kernel, by decide +kernel, by decide +kernel⟩
theorem iM_X12_end : gM yX12_end cX12_end 2 (some .boolean) 1 := ⟨mw_11_12, mw_1_5, by decide +kernel, by decide +kernel, by decide +kernel⟩
theorem iM_X12_fault : gM yX12_fault cX12_fault 1 (some .int) 0 := ⟨mw_19_16, mw_1_5, by decide +kernel, by decide +kernel, by decide +kernel⟩
theorem iM_X12_faults : gM yX12_faults cX12_faults 4 (some .int) 2 := ⟨mw_42_2, mw_1_5, by decide +kernel, by decide +kernel, by decide +kernel⟩
theorem iM_X12_feed : gM yX12_feed cX12_feed 6 (some .int) 5 := ⟨mw_10_17, mw_1_5, by decide +kernel, by decide +kernel, by decide +kernel⟩
theorem iM_X12_feeds : gM yX12_feeds cX12_feeds 3 none 1 := ⟨mw_10_22, mw_1_5, by decide +kernel, by decide +kernel, by decide +kernel⟩
theorem iM_X12_hang : gM yX12_hang cX12_hang 3 (some .int) 2 := ⟨mw_55_13, mw_1_5, by decide +kernel, by decide +kernel, by decide +kernel⟩
theorem iM_X12_height : gM yX12_height cX12_height 4 (some .int) 2 := ⟨mw_30_21, mw_1_5, by decide +kernel, by decide +kernel, by decide +kernel⟩
theorem iM_X12_image : gM yX12_image cX12_image 3 (some .boolean) 1 := ⟨mw_56_1, mw_1_5, by decide +kernel, by decide +kernel, by decide +kernel⟩
theorem iM_X12_in : gM yX12_in cX12_in 6 (some .boolean) 3 := ⟨mw_11_15, mw_1_5, by decide +kernel, by decide +kernel, by decide +kernel⟩
theorem iM_X12_init : gM yX12_init cX12_init 1 none 0 := ⟨mw_7_9, mw_1_5, by decide +kernel, by decide +kernel, by decide +kernel⟩
theorem iM_X12_isDone : gM yX12_isDone cX12_isDone 2 (some .boolean) 1 := ⟨mw_28_12, mw_1_5, by decide +kernel, by decide +kernel, by decide +kernel⟩
theorem iM_X12_isPaper : gM yX12_isPaper cX12_isPaper 2 (some .boolean) 1 := ⟨mw_32_21, mw_1_5, by decide +kernel, by decide +kernel, by decide +kernel⟩
theorem iM_X12_isRoom : gM yX12_isRoom cX12_isRoom 2 (some .boolean) 1 := ⟨mw_28_8, mw_1_5, by decide +kernel, by decide +kernel, by decide +kernel⟩
theorem iM_X12_keep : gM yX12_keep cX12_keep 4 (some .int) 3 := ⟨mw_51_14, mw_1_5, by decide +kernel, by decide +kernel, by decide +kernel⟩
theorem iM_X12_left : gM yX12_left cX12_left 4 (some .int) 3 := ⟨mw_38_11, mw_1_5, by decide +kernel, by decide +kernel, by decide +kernel⟩
theorem iM_X12_mended : gM yX12_mended cX12_mended 9 (some .int) 2 := ⟨mw_52_22, mw_1_5, by decide +kernel, by decide +kernel, by decide +kernel⟩
theorem iM_X12_next : gM yX12_next cX12_next 1 none 0 := ⟨mw_20_3, mw_1_5, by decide +kernel, by decide +kernel, by decide +kernel⟩
theorem iM_X12_of : gM yX12_of cX12_of 3 (some .int) 2 := ⟨mw_27_23, mw_1_5, by decide +kernel, by decide +kernel, by decide +kernel⟩
theorem iM_X12_on : gM yX12_on cX12_on 4 (some .boolean) 1 := ⟨mw_56_9, mw_1_5, by decide +kernel, by decide +kernel, by decide +kernel⟩
theorem iM_X12_own : gM yX12_own cX12_own 3 (some .int) 2 := ⟨mw_50_17, mw_1_5, by decide +kernel, by decide +kernel, by decide +kernel⟩
theorem iM_X12_paper : gM yX12_paper cX12_paper 6 (some .int) 5 := ⟨mw_31_16, mw_1_5, by decide +kernel, by decide +kernel, by decide +kernel⟩
theorem iM_X12_piece : gM yX12_piece cX12_piece 4 (some .int) 3 := ⟨mw_35_13, mw_1_5, by decide +kernel, by decide +kernel, by decide +kernel⟩
theorem iM_X12_reads : gM yX12_reads cX12_reads 2 none 0 := ⟨mw_19_21, mw_1_5, by decide +kernel, by decide +kernel, by decide +kernel⟩
theorem iM_X12_rolls : gM yX12_rolls cX12_rolls 5 (some .int) 2 := ⟨mw_37_21, mw_1_5, by decide +kernel, by decide +kernel, by decide +kernel⟩
theorem iM_X12_room : gM yX12_room cX12_room 3 (some .int) 0 := ⟨mw_22_11, mw_1_5, by decide +kernel, by decide +kernel, by decide +kernel⟩
theorem iM_X12_run : gM yX12_run cX12_run 5 (some .int) 3 := ⟨mw_46_7, mw_1_5, by decide +kernel, by decide +kernel, by decide +kernel⟩
theorem iM_X12_shared : gM yX12_shared cX12_shared 4 (some .int) 2 := ⟨mw_49_20, mw_1_5, by decide +kernel, by decide +kernel, by decide +kernel⟩
theorem iM_X12_shown : gM yX12_shown cX12_shown 3 (some .int) 2 := ⟨mw_45_9, mw_1_5, by decide +kernel, by decide +kernel, by decide +kernel⟩
theorem iM_X12_strip : gM yX12_strip cX12_strip 4 (some .int) 3 := ⟨mw_33_11, mw_1_5, by decide +kernel, by decide +kernel, by decide +kernel⟩
theorem iM_X12_trim : gM yX12_trim cX12_trim 2 (some .boolean) 1 := ⟨mw_32_7, mw_1_5, by decide +kernel, by decide +kernel, by decide +kernel⟩
theorem iM_X1_init : gM yX1_init cX1_init 1 none 0 := ⟨mw_5_7, mw_2_15, by decide +kernel, by decide +kernel, by decide +kernel⟩
theorem iM_X2_init : gM yX2_init cX2_init 1 none 0 := ⟨mw_4_10, mw_2_7, by decide +kernel, by decide +kernel, by decide +kernel⟩
theorem iM_X3_canBe : gM yX3_canBe cX3_canBe 5 (some .boolean) 5 := ⟨mw_31_5, mw_24_12, by decide +kernel, by decide +kernel, by decide +kernel⟩
theorem iM_X3_init : gM yX3_init cX3_init 6 none 5 := ⟨mw_31_8, mw_24_12, by decide +kernel, by decide +kernel, by decide +kernel⟩
theorem iM_X4_init : gM yX4_init cX4_init 2 none 1 := ⟨mw_3_18, mw_1_18, by decide +kernel, by decide +kernel, by decide +kernel⟩
theorem iM_X4_isNext : gM yX4_isNext cX4_isNext 2 (some .boolean) 1 := ⟨mw_16_9, mw_1_18, by decide +kernel, by decide +kernel, by decide +kernel⟩
theorem iM_X4_read : gM yX4_read cX4_read 3 (some .int) 1 := ⟨mw_11_23, mw_1_18, by decide +kernel, by decide +kernel, by decide +kernel⟩
theorem iM_X5_init : gM yX5_init cX5_init 1 none 0 := ⟨mw_4_23, mw_2_11, by decide +kernel, by decide +kernel, by decide +kernel⟩
theorem iM_X6_clear : gM yX6_clear cX6_clear 1 none 0 := ⟨mw_15_21, mw_3_2, by decide +kernel, by decide +kernel, by decide +kernel⟩
theorem iM_X6_init : gM yX6_init cX6_init 1 none 0 := ⟨mw_6_6, mw_3_2, by decide +kernel, by decide +kernel, by decide +kernel⟩
theorem iM_X7_init : gM yX7_init cX7_init 1 none 0 := ⟨mw_5_13, mw_2_19, by decide +kernel, by decide +kernel, by decide +kernel⟩
theorem iM_X8_copyFrom : gM yX8_copyFrom cX8_copyFrom 3 none 1 := ⟨mw_55_21, mw_2_2, by decide +kernel, by decide +kernel, by decide +kernel⟩
theorem iM_X8_init : gM yX8_init cX8_init 2 none 0 := ⟨mw_3_23, mw_2_2, by decide +kernel, by decide +kernel, by decide +kernel⟩
theorem iM_X9_add : gM yX9_add cX9_add 3 none 1 := ⟨mw_10_12, mw_1_14, by decide +kernel, by decide +kernel, by decide +kernel⟩
theorem iM_X9_addToken : gM yX9_addToken cX9_addToken 4 none 3 := ⟨mw_15_6, mw_1_14, by decide +kernel, by decide +kernel, by decide +kernel⟩
theorem iM_X9_hasSpaceFor : gM yX9_hasSpaceFor cX9_hasSpaceFor 2 (some .boolean) 1 := ⟨mw_10_7, mw_1_14, by decide +kernel, by decide +kernel, by decide +kernel⟩
theorem iM_X9_init : gM yX9_init cX9_init 1 none 0 := ⟨mw_3_9, mw_1_14, by decide +kernel, by decide +kernel, by decide +kernel⟩
theorem iM_X9_shorten : gM yX9_shorten cX9_shorten 2 (some .boolean) 1 := ⟨mw_11_6, mw_1_14, by decide +kernel, by decide +kernel, by decide +kernel⟩
theorem iM_X9_split : gM yX9_split cX9_split 3 none 0 := ⟨mw_12_8, mw_1_14, by decide +kernel, by decide +kernel, by decide +kernel⟩
theorem df_X0 : ∀ j, j < 7 → defaultValue (tyX0 j) = vp_V [.int 0, .int 0, .int 0, .int 0, .int 0, .null, .int 0] j := by decide +kernel
theorem df_X1 : ∀ j, j < 9 → defaultValue (tyX1 j) = vp_V [.null, .null, .int 0, .int 0, .null, .null, .int 0, .int 0, .int 0] j := by decide +kernel
theorem df_X2 : ∀ j, j < 16 → defaultValue (tyX2 j) = vp_V [.null, .null, .int 0, .int 0, .int 0, .int 0, .null, .null, .int 0, .null, .null, .null, .null, .null, .null, .null] j := by decide +kernel
theorem df_X3 : ∀ j, j < 6 → defaultValue (tyX3 j) = vp_V [.int 0, .int 0, .int 0, .int 0, .int 0, .int 0] j := by decide +kernel
theorem df_X4 : ∀ j, j < 3 → defaultValue (tyX4 j) = vp_V [.null, .null, .int 0] j := by decide +kernel
theorem df_X5 : ∀ j, j < 8 → defaultValue (tyX5 j) = vp_V [.null, .int 0, .null, .int 0, .int 0, .null, .null, .null] j := by decide +kernel
theorem df_X6 : ∀ j, j < 12 → defaultValue (tyX6 j) = vp_V [.null, .int 0, .null, .null, .null, .null, .null, .null, .int 0, .null, .null, .null] j := by decide +kernel
theorem df_X7 : ∀ j, j < 12 → defaultValue (tyX7 j) = vp_V [.int 0, .null, .null, .null, .int 0, .int 0, .null, .null, .null, .null, .null, .int 0] j := by decide +kernel
theorem df_X8 : ∀ j, j < 8 → defaultValue (tyX8 j) = vp_V [.null, .null, .null, .null, .int 0, .null, .null, .null] j := by decide +kernel
theorem df_X9 : ∀ j, j < 6 → defaultValue (tyX9 j) = vp_V [.null, .int 0, .int 0, .null, .null, .null] j := by decide +kernel
theorem df_X10 : ∀ j, j < 8 → defaultValue (tyX10 j) = vp_V [.null, .null, .null, .null, .null, .null, .int 0, .int 0] j := by decide +kernel
theorem df_X11 : ∀ j, j < 15 → defaultValue (tyX11 j) = vp_V [.null, .null, .null, .null, .null, .null, .null, .null, .null, .null, .null, .null, .int 0, .int 0, .int 0] j := by decide +kernel
theorem df_X12 : ∀ j, j < 75 → defaultValue (tyX12 j) = vp_V [.null, .null, .null, .null, .null, .null, .null, .null, .null, .null, .null, .null, .null, .null, .null, .null, .null, .null, .int 0, .null, .int 0, .int 0, .int 0, .int 0, .int 0, .null, .null, .null, .null, .null, .null, .null, .int 0, .int 0, .null, .null, .null, .null, .null, .null, .null, .null, .null, .null, .null, .null, .null, .int 0, .int 0, .int 0, .int 0, .int 0, .int 0, .int 0, .null, .int 0, .null, .null, .null, .null, .null, .null, .null, .null, .int 0, .int 0, .null, .null, .null, .int 0, .null, .null, .null, .null, .null] j := by decide +kernel
end
section
/-! ===== plain facts ===== -/
def isF (a v b : Int32) : Int32 := if a ≤ v ∧ v ≤ b then 1 else 0
theorem i32_nlt {a b : Int32} (h : ¬ a < b) : b ≤ a := Int32.not_lt.mp h
theorem isF_y {a v b : Int32} (h1 : ¬ v < a) (h2 : ¬ b < v) : 1 = isF a v b := (if_pos ⟨i32_nlt h1, i32_nlt h2⟩).symm
theorem isF_n1 {a v b : Int32} (h : v < a) : 0 = isF a v b := (if_neg (fun q => (Int32.not_lt.mpr q.1) h)).symm
theorem isF_n2 {a v b : Int32} (h : b < v) : 0 = isF a v b := (if_neg (fun q => (Int32.not_lt.mpr q.2) h)).symm
theorem isF_or (a v b : Int32) : isF a v b = 0 ∨ isF a v b = 1 := by unfold isF; split <;> simp
theorem isF_one {a v b : Int32} (h : ¬ isF a v b = 0) : isF a v b = 1 := (isF_or a v b).resolve_left h
theorem isF_nar (a v b : Int32) : narrow .boolean (.int (isF a v b)) = .int (isF a v b) := by
  rcases isF_or a v b with h | h <;> rw [h] <;> rfl
theorem isF_e (n : Int32) : isF 0 n (-1) = 0 := if_neg (fun q => by
  have h1 := Int32.le_iff_toInt_le.mp q.1
  have h2 := Int32.le_iff_toInt_le.mp q.2
  have e1 : (0 : Int32).toInt = 0 := by decide
  have e2 : (-1 : Int32).toInt = -1 := by decide
  omega)
theorem isF_in {k : Int32} {M : Int32} {n : Nat} (hM : M.toInt + 1 = n) (h : ¬ isF 0 k M = 0) : vp_in k n := by
  have h1 : (0 : Int32) ≤ k ∧ k ≤ M := by
    by_cases q : (0 : Int32) ≤ k ∧ k ≤ M
    · exact q
    · exact absurd (if_neg q) h
  have a := Int32.le_iff_toInt_le.mp h1.1
  have b := Int32.le_iff_toInt_le.mp h1.2
  have e1 : (0 : Int32).toInt = 0 := by decide
  exact vp_in_iff.mpr ⟨by omega, by omega⟩
theorem lgc_lt {x y : Int64} : lg_cmp x y < 0 ↔ x < y := by
  unfold lg_cmp
  constructor
  · intro h
    by_cases h1 : x > y
    · rw [if_pos h1] at h; exact absurd h (by decide)
    · by_cases h2 : x = y
      · rw [if_neg h1, if_pos h2] at h; exact absurd h (by decide)
      · rcases Int64.lt_or_eq_of_le (Int64.not_lt.mp h1) with q | q
        · exact q
        · exact absurd q h2
  · intro h
    have h1 : ¬ x > y := Int64.not_lt.mpr (Int64.le_of_lt h)
    have h2 : ¬ x = y := fun q => by subst q; exact Int64.lt_irrefl h
    rw [if_neg h1, if_neg h2]
    decide
theorem lgc_gt {x y : Int64} : 0 < lg_cmp x y ↔ y < x := by
  unfold lg_cmp
  constructor
  · intro h
    by_cases h1 : x > y
    · exact h1
    · by_cases h2 : x = y
      · rw [if_neg h1, if_pos h2] at h; exact absurd h (by decide)
      · rw [if_neg h1, if_neg h2] at h; exact absurd h (by decide)
  · intro h
    rw [if_pos (show x > y from h)]
    decide
def inF (v a b : Int64) : Int32 := if a ≤ v ∧ v ≤ b then 1 else 0
theorem inF_n1 {v a b : Int64} (h : lg_cmp v a < 0) : 0 = inF v a b := (if_neg (fun q => (Int64.not_lt.mpr q.1) (lgc_lt.mp h))).symm
theorem inF_n2 {v a b : Int64} (h : 0 < lg_cmp v b) : 0 = inF v a b := (if_neg (fun q => (Int64.not_lt.mpr q.2) (lgc_gt.mp h))).symm
theorem inF_y {v a b : Int64} (h1 : ¬ lg_cmp v a < 0) (h2 : ¬ 0 < lg_cmp v b) : 1 = inF v a b := (if_pos ⟨Int64.not_lt.mp (fun q => h1 (lgc_lt.mpr q)), Int64.not_lt.mp (fun q => h2 (lgc_gt.mpr q))⟩).symm
theorem inF_or (v a b : Int64) : inF v a b = 0 ∨ inF v a b = 1 := by unfold inF; split <;> simp
theorem inF_one {v a b : Int64} (h : ¬ inF v a b = 0) : inF v a b = 1 := (inF_or v a b).resolve_left h
/-- the reference's test of longs is the class's of ints -/
theorem inF_isF (v a b : Int32) : inF v.toInt64 a.toInt64 b.toInt64 = isF a v b := by
  unfold inF isF
  simp only [Int64.le_iff_toInt_le, Int32.le_iff_toInt_le, Int32.toInt_toInt64]
theorem inF_e (n : Int32) : inF n.toInt64 0 (-1) = 0 := (inF_isF n 0 (-1)).trans (isF_e n)
theorem inF_in {k M : Int32} {N : Int64} {n : Nat} (hM : M.toInt + 1 = n) (hN : M.toInt64 = N := by rfl) (h : ¬ inF k.toInt64 0 N = 0) : vp_in k n := by
  subst hN
  exact isF_in hM (fun q => h ((inF_isF k 0 M).trans q))
def canB (w r d l f : Int32) : Int32 := if isF 20 w 120 = 0 then 0 else if isF 10 r 120 = 0 then 0 else if isF 0 d 2 = 0 then 0 else if isF 300 l 2000 = 0 then 0 else if isF 0 (f / 1000) (r - 1) = 0 then 0 else if isF 1 (f - f / 1000 * 1000) r = 0 then 0 else 1
def papC (w r d l f : Int32) : Int32 := if canB w r d l f = 0 then -1 else 0
def papM (w r d l f : Int32) : Int32 := if inF w.toInt64 20 120 = 0 then -1 else if inF r.toInt64 10 120 = 0 then -1 else if inF d.toInt64 0 2 = 0 then -1 else if inF l.toInt64 300 2000 = 0 then -1 else if f < 0 then -1 else if inF (f / 1000).toInt64 0 (r - 1).toInt64 = 0 then -1 else if inF (f - f / 1000 * 1000).toInt64 1 r.toInt64 = 0 then -1 else 0
def cntF (x : Int32) : Int32 := if x.toInt = 2 then 5 else if x.toInt < 0 ∨ 5 < x.toInt then -1 else 0
theorem cntF_out {x : Int32} (h : x.toInt < 0 ∨ 5 < x.toInt) : (-1) = cntF x := by
  unfold cntF
  rw [if_neg (by omega), if_pos h]
theorem cntF_2 {x : Int32} (h : x.toInt = 2) : 5 = cntF x := by
  unfold cntF
  rw [if_pos h]
theorem cntF_in {x : Int32} {q : Int} (h : x.toInt = q) (h2 : q ≠ 2) (h3 : 0 ≤ q ∧ q ≤ 5) : 0 = cntF x := by
  unfold cntF
  rw [if_neg (by omega), if_neg (by omega)]
theorem f1000 (f : Int32) : (f - f / 1000 * 1000).toInt = f.toInt.tmod 1000 := by
  have h := Int32.toInt_mod f 1000
  have e : f - f / 1000 * 1000 = f % 1000 := by
    apply Int32.toInt_inj.mp
    rw [Int32.toInt_mod, Int32.toInt_sub, Int32.toInt_mul, Int32.toInt_div]
    have h0 : (1000 : Int32).toInt = 1000 := by decide
    rw [h0]
    have r1 := Int32.le_toInt f
    have r2 := Int32.toInt_lt f
    have hd := Int.mul_tdiv_add_tmod f.toInt 1000
    have hb : -1000 < f.toInt.tmod 1000 ∧ f.toInt.tmod 1000 < 1000 := tmod_bounds (by decide)
    have hs1 : 0 ≤ f.toInt → 0 ≤ f.toInt.tmod 1000 := fun h => Int.tmod_nonneg 1000 h
    have hs2 : f.toInt ≤ 0 → f.toInt.tmod 1000 ≤ 0 := fun h => by
      have h4 := Int.tmod_nonneg (a := -f.toInt) 1000 (by omega)
      rw [Int.neg_tmod] at h4
      omega
    have e1 : (f.toInt.tdiv 1000).bmod (2 ^ 32) = f.toInt.tdiv 1000 := Int.bmod_eq_of_le (by omega) (by omega)
    have e2 : (f.toInt.tdiv 1000 * 1000).bmod (2 ^ 32) = f.toInt.tdiv 1000 * 1000 := Int.bmod_eq_of_le (by omega) (by omega)
    rw [e1, e2]
    have e3 : f.toInt - f.toInt.tdiv 1000 * 1000 = f.toInt.tmod 1000 := by omega
    rw [e3]
    exact Int.bmod_eq_of_le (by omega) (by omega)
  rw [e, Int32.toInt_mod]
  rfl
theorem pap_eq (w r d l f : Int32) : papC w r d l f = papM w r d l f := by
  unfold papC papM canB
  have i1 : inF w.toInt64 20 120 = isF 20 w 120 := inF_isF w 20 120
  have i2 : inF r.toInt64 10 120 = isF 10 r 120 := inF_isF r 10 120
  have i3 : inF d.toInt64 0 2 = isF 0 d 2 := inF_isF d 0 2
  have i4 : inF l.toInt64 300 2000 = isF 300 l 2000 := inF_isF l 300 2000
  have i5 : inF (f / 1000).toInt64 0 (r - 1).toInt64 = isF 0 (f / 1000) (r - 1) := inF_isF _ 0 _
  have i6 : inF (f - f / 1000 * 1000).toInt64 1 r.toInt64 = isF 1 (f - f / 1000 * 1000) r := inF_isF _ 1 _
  rw [i1, i2, i3, i4, i5, i6]
  by_cases hf : f < 0
  · have hn : isF 1 (f - f / 1000 * 1000) r = 0 := if_neg (fun q => by
      have h1 := Int32.le_iff_toInt_le.mp q.1
      rw [f1000] at h1
      have h2 := Int32.lt_iff_toInt_lt.mp hf
      have e0 : (0 : Int32).toInt = 0 := by decide
      have e1 : (1 : Int32).toInt = 1 := by decide
      rw [e0] at h2
      have h3 : f.toInt.tmod 1000 ≤ 0 := by
        have h4 := Int.tmod_nonneg (a := -f.toInt) 1000 (by omega)
        rw [Int.neg_tmod] at h4
        omega
      omega)
    rw [hn]
    simp [hf]
  · simp only [hf, if_false]
    by_cases a1 : isF 20 w 120 = 0 <;> by_cases a2 : isF 10 r 120 = 0 <;> by_cases a3 : isF 0 d 2 = 0 <;> by_cases a4 : isF 300 l 2000 = 0 <;> by_cases a5 : isF 0 (f / 1000) (r - 1) = 0 <;> by_cases a6 : isF 1 (f - f / 1000 * 1000) r = 0 <;> simp [a1, a2, a3, a4, a5, a6]
theorem i30 {z : Int} (h : ¬ (z < 0 ∨ 29 < z)) : z = 0 ∨ z = 1 ∨ z = 2 ∨ z = 3 ∨ z = 4 ∨ z = 5 ∨ z = 6 ∨ z = 7 ∨ z = 8 ∨ z = 9 ∨ z = 10 ∨ z = 11 ∨ z = 12 ∨ z = 13 ∨ z = 14 ∨ z = 15 ∨ z = 16 ∨ z = 17 ∨ z = 18 ∨ z = 19 ∨ z = 20 ∨ z = 21 ∨ z = 22 ∨ z = 23 ∨ z = 24 ∨ z = 25 ∨ z = 26 ∨ z = 27 ∨ z = 28 ∨ z = 29 := by omega
end
section
set_option maxHeartbeats 4000000 in
set_option maxRecDepth 100000 in
theorem c_isFrom (l : Launch) (Z : gZ) (a : Int32) (v : Int32) (b : Int32) : Con l Z yX11_isFrom cX11_isFrom 3 (some .boolean) 0 0 0 0 [.int a, .int v, .int b] [] (fun r w' => r = some (.int (isF a v b)) ∧ w' = []) := by
  refine enter (by decide) (Nat.le_of_ble_eq_true rfl) ?_
  intro p e s m args below meth c A X hnm hA
  have X : Cx p s m args meth c cX11_isFrom 3 (some .boolean) RX11 Z A := X
  refine g_as (pc' := 0) (lv' := [(0, .int a), (1, .int v), (2, .int b)]) (st' := []) (ws' := []) rfl rfl rfl rfl ?_
  refine g_iload_n (pc := 0) X 1 rfl dX11_isFrom_0 ?_
  refine g_iload_n (pc := 1) X 0 rfl dX11_isFrom_1 ?_
  refine g_icmp_lt (pc := 2) X 14 (by decide) dX11_isFrom_2 (fun b2 => ?_) (fun b2 => ?_)
  · refine g_iconst (pc := 14) X 0 (by decide) dX11_isFrom_14 ?_
    exact g_zret (pc := 15) X hA (rfl) (⟨congrArg (fun z => some (Value.int z)) (isF_n1 b2), rfl⟩) (by decide) (by decide) dX11_isFrom_15
  · refine g_iload_n (pc := 5) X 1 rfl dX11_isFrom_5 ?_
    refine g_iload_n (pc := 6) X 2 rfl dX11_isFrom_6 ?_
    refine g_icmp_gt (pc := 7) X 14 (by decide) dX11_isFrom_7 (fun b7 => ?_) (fun b7 => ?_)
    · refine g_iconst (pc := 14) X 0 (by decide) dX11_isFrom_14 ?_
      exact g_zret (pc := 15) X hA (rfl) (⟨congrArg (fun z => some (Value.int z)) (isF_n2 b7), rfl⟩) (by decide) (by decide) dX11_isFrom_15
    · refine g_iconst (pc := 10) X 1 (by decide) dX11_isFrom_10 ?_
      refine g_goto (pc := 11) X 15 (by decide) dX11_isFrom_11 ?_
      exact g_zret (pc := 15) X hA (rfl) (⟨congrArg (fun z => some (Value.int z)) (isF_y b2 b7), rfl⟩) (by decide) (by decide) dX11_isFrom_15

set_option maxHeartbeats 4000000 in
set_option maxRecDepth 100000 in
theorem c_roomAt (l : Launch) (Z : gZ) (h0 : Nat) (a1 : Nat) (a2 : Nat) (a3 : Nat) (a4 : Nat) (a5 : Nat) (a6 : Nat) (a7 : Nat) (a8 : Nat) (a9 : Nat) (a10 : Nat) (a11 : Nat) (a12 : Nat) (x1 : Int32) : Con l Z yX11_roomAt cX11_roomAt 2 (some (.object "HalfDrop$Room")) 1 22 0 0 [.ref h0, .int x1] [(h0, .inr (11, [.ref a1, .ref a2, .ref a3, .ref a4, .ref a5, .ref a6, .ref a7, .ref a8, .ref a9, .ref a10, .ref a11, .ref a12, .int 0, .int 0, .int 5]))] (fun r w' => r = some (.null) ∧ w' = [(h0, .inr (11, [.ref a1, .ref a2, .ref a3, .ref a4, .ref a5, .ref a6, .ref a7, .ref a8, .ref a9, .ref a10, .ref a11, .ref a12, .int 0, .int 0, .int 5]))]) := by
  refine enter (by decide) (Nat.le_of_ble_eq_true rfl) ?_
  intro p e s m args below meth c A X hnm hA
  have X : Cx p s m args meth c cX11_roomAt 2 (some (.object "HalfDrop$Room")) RX11 Z A := X
  refine g_as (pc' := 0) (lv' := [(0, .ref h0), (1, .int x1)]) (st' := []) (ws' := [(h0, .inr (11, [.ref a1, .ref a2, .ref a3, .ref a4, .ref a5, .ref a6, .ref a7, .ref a8, .ref a9, .ref a10, .ref a11, .ref a12, .int 0, .int 0, .int 5]))]) rfl rfl rfl rfl ?_
  refine g_iconst (pc := 0) X 0 (by decide) dX11_roomAt_0 ?_
  refine g_iload_n (pc := 1) X 1 rfl dX11_roomAt_1 ?_
  refine g_aload_n (pc := 2) X 0 rfl dX11_roomAt_2 ?_
  refine g_get (pc := 3) X inlX11 0 rfl rfl 12 (by decide) mw_3_4 rfl dX11_roomAt_3 ?_
  refine g_iconst (pc := 6) X 1 (by decide) dX11_roomAt_6 ?_
  refine g_isub (pc := 7) X dX11_roomAt_7 ?_
  refine g_lit (y := (-1)) (by decide) ?_
  refine g_callS (pc := 8) X (c_isFrom l Z 0 x1 (-1)) iM_X11_isFrom mw_23_8 mw_11_7 [] [0] rfl (wr := [(h0, .inr (11, [.ref a1, .ref a2, .ref a3, .ref a4, .ref a5, .ref a6, .ref a7, .ref a8, .ref a9, .ref a10, .ref a11, .ref a12, .int 0, .int 0, .int 5]))]) rfl (by decide) rfl rfl (Nat.le_of_ble_eq_true rfl) (by decide) dX11_roomAt_8 (fun r w' hpo => ?_)
  obtain ⟨rfl, rfl⟩ := hpo
  refine g_as (pc' := 11) (lv' := [(0, .ref h0), (1, .int x1)]) (st' := [.int (isF 0 x1 (-1))]) (ws' := [(h0, .inr (11, [.ref a1, .ref a2, .ref a3, .ref a4, .ref a5, .ref a6, .ref a7, .ref a8, .ref a9, .ref a10, .ref a11, .ref a12, .int 0, .int 0, .int 5]))]) rfl rfl rfl rfl ?_
  refine g_if_eq (pc := 11) X 23 (by decide) dX11_roomAt_11 (fun b11 => ?_) (fun h => absurd (isF_e _) h)
  refine g_null (pc := 23) X dX11_roomAt_23 ?_
  exact g_aret (pc := 24) X (Or.inl ⟨_, rfl⟩) hA (Or.inl rfl) (⟨rfl, rfl⟩) (by decide) (by decide) dX11_roomAt_24

set_option maxHeartbeats 4000000 in
set_option maxRecDepth 100000 in
theorem c_paperAt (l : Launch) (Z : gZ) (h0 : Nat) (a1 : Nat) (a2 : Nat) (a3 : Nat) (a4 : Nat) (a5 : Nat) (a6 : Nat) (a7 : Nat) (a8 : Nat) (a9 : Nat) (a10 : Nat) (a11 : Nat) (a12 : Nat) (x1 : Int32) : Con l Z yX11_paperAt cX11_paperAt 2 (some (.object "HalfDrop$Paper")) 1 22 0 0 [.ref h0, .int x1] [(h0, .inr (11, [.ref a1, .ref a2, .ref a3, .ref a4, .ref a5, .ref a6, .ref a7, .ref a8, .ref a9, .ref a10, .ref a11, .ref a12, .int 0, .int 0, .int 5]))] (fun r w' => r = some (.null) ∧ w' = [(h0, .inr (11, [.ref a1, .ref a2, .ref a3, .ref a4, .ref a5, .ref a6, .ref a7, .ref a8, .ref a9, .ref a10, .ref a11, .ref a12, .int 0, .int 0, .int 5]))]) := by
  refine enter (by decide) (Nat.le_of_ble_eq_true rfl) ?_
  intro p e s m args below meth c A X hnm hA
  have X : Cx p s m args meth c cX11_paperAt 2 (some (.object "HalfDrop$Paper")) RX11 Z A := X
  refine g_as (pc' := 0) (lv' := [(0, .ref h0), (1, .int x1)]) (st' := []) (ws' := [(h0, .inr (11, [.ref a1, .ref a2, .ref a3, .ref a4, .ref a5, .ref a6, .ref a7, .ref a8, .ref a9, .ref a10, .ref a11, .ref a12, .int 0, .int 0, .int 5]))]) rfl rfl rfl rfl ?_
  refine g_iconst (pc := 0) X 0 (by decide) dX11_paperAt_0 ?_
  refine g_iload_n (pc := 1) X 1 rfl dX11_paperAt_1 ?_
  refine g_aload_n (pc := 2) X 0 rfl dX11_paperAt_2 ?_
  refine g_get (pc := 3) X inlX11 0 rfl rfl 13 (by decide) mw_3_5 rfl dX11_paperAt_3 ?_
  refine g_iconst (pc := 6) X 1 (by decide) dX11_paperAt_6 ?_
  refine g_isub (pc := 7) X dX11_paperAt_7 ?_
  refine g_lit (y := (-1)) (by decide) ?_
  refine g_callS (pc := 8) X (c_isFrom l Z 0 x1 (-1)) iM_X11_isFrom mw_23_8 mw_11_7 [] [0] rfl (wr := [(h0, .inr (11, [.ref a1, .ref a2, .ref a3, .ref a4, .ref a5, .ref a6, .ref a7, .ref a8, .ref a9, .ref a10, .ref a11, .ref a12, .int 0, .int 0, .int 5]))]) rfl (by decide) rfl rfl (Nat.le_of_ble_eq_true rfl) (by decide) dX11_paperAt_8 (fun r w' hpo => ?_)
  obtain ⟨rfl, rfl⟩ := hpo
  refine g_as (pc' := 11) (lv' := [(0, .ref h0), (1, .int x1)]) (st' := [.int (isF 0 x1 (-1))]) (ws' := [(h0, .inr (11, [.ref a1, .ref a2, .ref a3, .ref a4, .ref a5, .ref a6, .ref a7, .ref a8, .ref a9, .ref a10, .ref a11, .ref a12, .int 0, .int 0, .int 5]))]) rfl rfl rfl rfl ?_
  refine g_if_eq (pc := 11) X 23 (by decide) dX11_paperAt_11 (fun b11 => ?_) (fun h => absurd (isF_e _) h)
  refine g_null (pc := 23) X dX11_paperAt_23 ?_
  exact g_aret (pc := 24) X (Or.inl ⟨_, rfl⟩) hA (Or.inl rfl) (⟨rfl, rfl⟩) (by decide) (by decide) dX11_paperAt_24

set_option maxHeartbeats 4000000 in
set_option maxRecDepth 100000 in
theorem c_lay0 (l : Launch) (Z : gZ) (h0 : Nat) (a1 : Nat) (a2 : Nat) (a3 : Nat) (a4 : Nat) (a5 : Nat) (a6 : Nat) (a7 : Nat) (a8 : Nat) (a9 : Nat) (a10 : Nat) (a11 : Nat) (a12 : Nat) (x1 : Int32) : Con l Z yX11_lay cX11_lay 4 (some .boolean) 2 43 0 0 [.ref h0, .int x1] [(h0, .inr (11, [.ref a1, .ref a2, .ref a3, .ref a4, .ref a5, .ref a6, .ref a7, .ref a8, .ref a9, .ref a10, .ref a11, .ref a12, .int 0, .int 0, .int 5]))] (fun r w' => r = some (.int 0) ∧ w' = [(h0, .inr (11, [.ref a1, .ref a2, .ref a3, .ref a4, .ref a5, .ref a6, .ref a7, .ref a8, .ref a9, .ref a10, .ref a11, .ref a12, .int 0, .int 0, .int 5]))]) := by
  refine enter (by decide) (Nat.le_of_ble_eq_true rfl) ?_
  intro p e s m args below meth c A X hnm hA
  have X : Cx p s m args meth c cX11_lay 4 (some .boolean) RX11 Z A := X
  refine g_as (pc' := 0) (lv' := [(0, .ref h0), (1, .int x1)]) (st' := []) (ws' := [(h0, .inr (11, [.ref a1, .ref a2, .ref a3, .ref a4, .ref a5, .ref a6, .ref a7, .ref a8, .ref a9, .ref a10, .ref a11, .ref a12, .int 0, .int 0, .int 5]))]) rfl rfl rfl rfl ?_
  refine g_aload_n (pc := 0) X 0 rfl dX11_lay_0 ?_
  refine g_iload_n (pc := 1) X 1 rfl dX11_lay_1 ?_
  refine g_callV (pc := 2) X (c_roomAt l Z h0 a1 a2 a3 a4 a5 a6 a7 a8 a9 a10 a11 a12 x1) iM_X11_roomAt mw_23_4 mw_23_5 mw_23_6 0 rfl rfl [0] [] rfl (wr := []) rfl (by decide) rfl rfl (Nat.le_of_ble_eq_true rfl) (by decide) dX11_lay_2 (fun r w' hpo => ?_)
  obtain ⟨rfl, rfl⟩ := hpo
  refine g_as (pc' := 5) (lv' := [(0, .ref h0), (1, .int x1)]) (st' := [.null]) (ws' := [(h0, .inr (11, [.ref a1, .ref a2, .ref a3, .ref a4, .ref a5, .ref a6, .ref a7, .ref a8, .ref a9, .ref a10, .ref a11, .ref a12, .int 0, .int 0, .int 5]))]) rfl rfl rfl rfl ?_
  refine g_astore_nN (pc := 5) X (i := 2) rfl (by decide) (lv' := [(2, .null), (0, .ref h0), (1, .int x1)]) rfl dX11_lay_5 ?_
  refine g_aload_nN (pc := 6) X 0 rfl dX11_lay_6 ?_
  refine g_ifnonnullN (pc := 7) X dX11_lay_7 ?_
  refine g_iconst (pc := 10) X 0 (by decide) dX11_lay_10 ?_
  exact g_zret (pc := 11) X hA (rfl) (⟨rfl, rfl⟩) (by decide) (by decide) dX11_lay_11
end
