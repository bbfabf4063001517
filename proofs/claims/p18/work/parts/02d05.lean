theorem dX6_doorAtCorner_30 : decode cX6_doorAtCorner 30 = .ok (.aload_n 0, 1) := by decide +kernel
theorem dX6_doorAtCorner_31 : decode cX6_doorAtCorner 31 = .ok (.getfield 12, 3) := by decide +kernel
theorem dX6_doorAtCorner_34 : decode cX6_doorAtCorner 34 = .ok (.iload_n 1, 1) := by decide +kernel
theorem dX6_doorAtCorner_35 : decode cX6_doorAtCorner 35 = .ok (.invokevirtual 68, 3) := by decide +kernel
theorem dX6_doorAtCorner_38 : decode cX6_doorAtCorner 38 = .ok (.iload_n 3, 1) := by decide +kernel
theorem dX6_doorAtCorner_39 : decode cX6_doorAtCorner 39 = .ok (.invokevirtual 61, 3) := by decide +kernel
theorem dX6_doorAtCorner_42 : decode cX6_doorAtCorner 42 = .ok (.ifCond .ne 13, 3) := by decide +kernel
theorem dX6_doorAtCorner_45 : decode cX6_doorAtCorner 45 = .ok (.aload_n 0, 1) := by decide +kernel
theorem dX6_doorAtCorner_46 : decode cX6_doorAtCorner 46 = .ok (.iload_n 2, 1) := by decide +kernel
theorem dX6_doorAtCorner_47 : decode cX6_doorAtCorner 47 = .ok (.iconst 0, 1) := by decide +kernel
theorem dX6_doorAtCorner_48 : decode cX6_doorAtCorner 48 = .ok (.iload_n 3, 1) := by decide +kernel
theorem dX6_doorAtCorner_49 : decode cX6_doorAtCorner 49 = .ok (.invokevirtual 61, 3) := by decide +kernel
theorem dX6_doorAtCorner_52 : decode cX6_doorAtCorner 52 = .ok (.ifCond .eq 5, 3) := by decide +kernel
theorem dX6_doorAtCorner_55 : decode cX6_doorAtCorner 55 = .ok (.iconst 1, 1) := by decide +kernel
theorem dX6_doorAtCorner_56 : decode cX6_doorAtCorner 56 = .ok (.ireturn, 1) := by decide +kernel
theorem dX6_doorAtCorner_57 : decode cX6_doorAtCorner 57 = .ok (.iinc 3 1, 3) := by decide +kernel
theorem dX6_doorAtCorner_60 : decode cX6_doorAtCorner 60 = .ok (.goto (-49), 3) := by decide +kernel
theorem dX6_doorAtCorner_63 : decode cX6_doorAtCorner 63 = .ok (.iconst 0, 1) := by decide +kernel
theorem dX6_doorAtCorner_64 : decode cX6_doorAtCorner 64 = .ok (.ireturn, 1) := by decide +kernel
theorem dX6_doorsAbove_0 : decode cX6_doorsAbove 0 = .ok (.iconst 0, 1) := by decide +kernel
theorem dX6_doorsAbove_1 : decode cX6_doorsAbove 1 = .ok (.istore_n 2, 1) := by decide +kernel
theorem dX6_doorsAbove_2 : decode cX6_doorsAbove 2 = .ok (.iconst 0, 1) := by decide +kernel
theorem dX6_doorsAbove_3 : decode cX6_doorsAbove 3 = .ok (.istore_n 3, 1) := by decide +kernel
theorem dX6_doorsAbove_4 : decode cX6_doorsAbove 4 = .ok (.iload_n 3, 1) := by decide +kernel
theorem dX6_doorsAbove_5 : decode cX6_doorsAbove 5 = .ok (.aload_n 0, 1) := by decide +kernel
theorem dX6_doorsAbove_6 : decode cX6_doorsAbove 6 = .ok (.getfield 50, 3) := by decide +kernel
theorem dX6_doorsAbove_9 : decode cX6_doorsAbove 9 = .ok (.if_icmp .ge 44, 3) := by decide +kernel
theorem dX6_doorsAbove_12 : decode cX6_doorsAbove 12 = .ok (.aload_n 0, 1) := by decide +kernel
theorem dX6_doorsAbove_13 : decode cX6_doorsAbove 13 = .ok (.getfield 18, 3) := by decide +kernel
theorem dX6_doorsAbove_16 : decode cX6_doorsAbove 16 = .ok (.iload_n 3, 1) := by decide +kernel
theorem dX6_doorsAbove_17 : decode cX6_doorsAbove 17 = .ok (.baload, 1) := by decide +kernel
theorem dX6_doorsAbove_18 : decode cX6_doorsAbove 18 = .ok (.ifCond .eq 29, 3) := by decide +kernel
theorem dX6_doorsAbove_21 : decode cX6_doorsAbove 21 = .ok (.aload_n 0, 1) := by decide +kernel
theorem dX6_doorsAbove_22 : decode cX6_doorsAbove 22 = .ok (.getfield 35, 3) := by decide +kernel
theorem dX6_doorsAbove_25 : decode cX6_doorsAbove 25 = .ok (.iload_n 3, 1) := by decide +kernel
theorem dX6_doorsAbove_26 : decode cX6_doorsAbove 26 = .ok (.iaload, 1) := by decide +kernel
theorem dX6_doorsAbove_27 : decode cX6_doorsAbove 27 = .ok (.iload_n 1, 1) := by decide +kernel
theorem dX6_doorsAbove_28 : decode cX6_doorsAbove 28 = .ok (.if_icmp .le 19, 3) := by decide +kernel
theorem dX6_doorsAbove_31 : decode cX6_doorsAbove 31 = .ok (.iload_n 2, 1) := by decide +kernel
theorem dX6_doorsAbove_32 : decode cX6_doorsAbove 32 = .ok (.aload_n 0, 1) := by decide +kernel
theorem dX6_doorsAbove_33 : decode cX6_doorsAbove 33 = .ok (.getfield 29, 3) := by decide +kernel
theorem dX6_doorsAbove_36 : decode cX6_doorsAbove 36 = .ok (.iload_n 3, 1) := by decide +kernel
theorem dX6_doorsAbove_37 : decode cX6_doorsAbove 37 = .ok (.iaload, 1) := by decide +kernel
theorem dX6_doorsAbove_38 : decode cX6_doorsAbove 38 = .ok (.aload_n 0, 1) := by decide +kernel
theorem dX6_doorsAbove_39 : decode cX6_doorsAbove 39 = .ok (.getfield 26, 3) := by decide +kernel
theorem dX6_doorsAbove_42 : decode cX6_doorsAbove 42 = .ok (.iload_n 3, 1) := by decide +kernel
theorem dX6_doorsAbove_43 : decode cX6_doorsAbove 43 = .ok (.iaload, 1) := by decide +kernel
theorem dX6_doorsAbove_44 : decode cX6_doorsAbove 44 = .ok (.isub, 1) := by decide +kernel
theorem dX6_doorsAbove_45 : decode cX6_doorsAbove 45 = .ok (.iadd, 1) := by decide +kernel
theorem dX6_doorsAbove_46 : decode cX6_doorsAbove 46 = .ok (.istore_n 2, 1) := by decide +kernel
theorem dX6_doorsAbove_47 : decode cX6_doorsAbove 47 = .ok (.iinc 3 1, 3) := by decide +kernel
theorem dX6_doorsAbove_50 : decode cX6_doorsAbove 50 = .ok (.goto (-46), 3) := by decide +kernel
theorem dX6_doorsAbove_53 : decode cX6_doorsAbove 53 = .ok (.iload_n 2, 1) := by decide +kernel
theorem dX6_doorsAbove_54 : decode cX6_doorsAbove 54 = .ok (.ireturn, 1) := by decide +kernel
theorem dX6_standPlace_0 : decode cX6_standPlace 0 = .ok (.iconst 0, 1) := by decide +kernel
theorem dX6_standPlace_1 : decode cX6_standPlace 1 = .ok (.iload_n 1, 1) := by decide +kernel
theorem dX6_standPlace_2 : decode cX6_standPlace 2 = .ok (.aload_n 0, 1) := by decide +kernel
theorem dX6_standPlace_3 : decode cX6_standPlace 3 = .ok (.getfield 54, 3) := by decide +kernel
theorem dX6_standPlace_6 : decode cX6_standPlace 6 = .ok (.iconst 1, 1) := by decide +kernel
theorem dX6_standPlace_7 : decode cX6_standPlace 7 = .ok (.isub, 1) := by decide +kernel
theorem dX6_standPlace_8 : decode cX6_standPlace 8 = .ok (.invokestatic 57, 3) := by decide +kernel
theorem dX6_standPlace_11 : decode cX6_standPlace 11 = .ok (.ifCond .eq 36, 3) := by decide +kernel
theorem dX6_standPlace_14 : decode cX6_standPlace 14 = .ok (.aload_n 0, 1) := by decide +kernel
theorem dX6_standPlace_15 : decode cX6_standPlace 15 = .ok (.getfield 12, 3) := by decide +kernel
theorem dX6_standPlace_18 : decode cX6_standPlace 18 = .ok (.aload_n 0, 1) := by decide +kernel
theorem dX6_standPlace_19 : decode cX6_standPlace 19 = .ok (.getfield 38, 3) := by decide +kernel
theorem dX6_standPlace_22 : decode cX6_standPlace 22 = .ok (.iload_n 1, 1) := by decide +kernel
theorem dX6_standPlace_23 : decode cX6_standPlace 23 = .ok (.iaload, 1) := by decide +kernel
theorem dX6_standPlace_24 : decode cX6_standPlace 24 = .ok (.invokevirtual 71, 3) := by decide +kernel
theorem dX6_standPlace_27 : decode cX6_standPlace 27 = .ok (.aload_n 0, 1) := by decide +kernel
theorem dX6_standPlace_28 : decode cX6_standPlace 28 = .ok (.getfield 41, 3) := by decide +kernel
theorem dX6_standPlace_31 : decode cX6_standPlace 31 = .ok (.iload_n 1, 1) := by decide +kernel
theorem dX6_standPlace_32 : decode cX6_standPlace 32 = .ok (.iaload, 1) := by decide +kernel
theorem dX6_standPlace_33 : decode cX6_standPlace 33 = .ok (.iadd, 1) := by decide +kernel
theorem dX6_standPlace_34 : decode cX6_standPlace 34 = .ok (.aload_n 0, 1) := by decide +kernel
theorem dX6_standPlace_35 : decode cX6_standPlace 35 = .ok (.getfield 12, 3) := by decide +kernel
theorem dX6_standPlace_38 : decode cX6_standPlace 38 = .ok (.getfield 74, 3) := by decide +kernel
theorem dX6_standPlace_41 : decode cX6_standPlace 41 = .ok (.invokestatic 77, 3) := by decide +kernel
theorem dX6_standPlace_44 : decode cX6_standPlace 44 = .ok (.goto 4, 3) := by decide +kernel
theorem dX6_standPlace_47 : decode cX6_standPlace 47 = .ok (.iconst 0, 1) := by decide +kernel
theorem dX6_standPlace_48 : decode cX6_standPlace 48 = .ok (.ireturn, 1) := by decide +kernel
theorem dX6_standY_0 : decode cX6_standY 0 = .ok (.iconst 0, 1) := by decide +kernel
theorem dX6_standY_1 : decode cX6_standY 1 = .ok (.iload_n 1, 1) := by decide +kernel
theorem dX6_standY_2 : decode cX6_standY 2 = .ok (.aload_n 0, 1) := by decide +kernel
theorem dX6_standY_3 : decode cX6_standY 3 = .ok (.getfield 54, 3) := by decide +kernel
theorem dX6_standY_6 : decode cX6_standY 6 = .ok (.iconst 1, 1) := by decide +kernel
theorem dX6_standY_7 : decode cX6_standY 7 = .ok (.isub, 1) := by decide +kernel
theorem dX6_standY_8 : decode cX6_standY 8 = .ok (.invokestatic 57, 3) := by decide +kernel
theorem dX6_standY_11 : decode cX6_standY 11 = .ok (.ifCond .eq 12, 3) := by decide +kernel
theorem dX6_standY_14 : decode cX6_standY 14 = .ok (.aload_n 0, 1) := by decide +kernel
theorem dX6_standY_15 : decode cX6_standY 15 = .ok (.getfield 44, 3) := by decide +kernel
theorem dX6_standY_18 : decode cX6_standY 18 = .ok (.iload_n 1, 1) := by decide +kernel
theorem dX6_standY_19 : decode cX6_standY 19 = .ok (.iaload, 1) := by decide +kernel
theorem dX6_standY_20 : decode cX6_standY 20 = .ok (.goto 4, 3) := by decide +kernel
theorem dX6_standY_23 : decode cX6_standY 23 = .ok (.iconst 0, 1) := by decide +kernel
theorem dX6_standY_24 : decode cX6_standY 24 = .ok (.ireturn, 1) := by decide +kernel
theorem dX7_add_0 : decode cX7_add 0 = .ok (.aload_n 0, 1) := by decide +kernel
theorem dX7_add_1 : decode cX7_add 1 = .ok (.getfield 36, 3) := by decide +kernel
theorem dX7_add_4 : decode cX7_add 4 = .ok (.iconst 4, 1) := by decide +kernel
theorem dX7_add_5 : decode cX7_add 5 = .ok (.if_icmp .ge 13, 3) := by decide +kernel
theorem dX7_add_8 : decode cX7_add 8 = .ok (.iconst 1, 1) := by decide +kernel
theorem dX7_add_9 : decode cX7_add 9 = .ok (.iload_n 2, 1) := by decide +kernel
theorem dX7_add_10 : decode cX7_add 10 = .ok (.bipush 30, 2) := by decide +kernel
theorem dX7_add_12 : decode cX7_add 12 = .ok (.invokestatic 40, 3) := by decide +kernel
theorem dX7_add_15 : decode cX7_add 15 = .ok (.ifCond .ne 5, 3) := by decide +kernel
theorem dX7_add_18 : decode cX7_add 18 = .ok (.iconst (-1), 1) := by decide +kernel
theorem dX7_add_19 : decode cX7_add 19 = .ok (.ireturn, 1) := by decide +kernel
theorem dX7_add_20 : decode cX7_add 20 = .ok (.aload_n 0, 1) := by decide +kernel
theorem dX7_add_21 : decode cX7_add 21 = .ok (.getfield 11, 3) := by decide +kernel
theorem dX7_add_24 : decode cX7_add 24 = .ok (.aload_n 0, 1) := by decide +kernel
theorem dX7_add_25 : decode cX7_add 25 = .ok (.getfield 36, 3) := by decide +kernel
theorem dX7_add_28 : decode cX7_add 28 = .ok (.iload_n 1, 1) := by decide +kernel
theorem dX7_add_29 : decode cX7_add 29 = .ok (.iastore, 1) := by decide +kernel
theorem dX7_add_30 : decode cX7_add 30 = .ok (.aload_n 0, 1) := by decide +kernel
theorem dX7_add_31 : decode cX7_add 31 = .ok (.getfield 15, 3) := by decide +kernel
theorem dX7_add_34 : decode cX7_add 34 = .ok (.aload_n 0, 1) := by decide +kernel
theorem dX7_add_35 : decode cX7_add 35 = .ok (.getfield 36, 3) := by decide +kernel
theorem dX7_add_38 : decode cX7_add 38 = .ok (.iload_n 2, 1) := by decide +kernel
theorem dX7_add_39 : decode cX7_add 39 = .ok (.iastore, 1) := by decide +kernel
theorem dX7_add_40 : decode cX7_add 40 = .ok (.aload_n 0, 1) := by decide +kernel
theorem dX7_add_41 : decode cX7_add 41 = .ok (.dup, 1) := by decide +kernel
theorem dX7_add_42 : decode cX7_add 42 = .ok (.getfield 36, 3) := by decide +kernel
theorem dX7_add_45 : decode cX7_add 45 = .ok (.iconst 1, 1) := by decide +kernel
theorem dX7_add_46 : decode cX7_add 46 = .ok (.iadd, 1) := by decide +kernel
theorem dX7_add_47 : decode cX7_add 47 = .ok (.putfield 36, 3) := by decide +kernel
theorem dX7_add_50 : decode cX7_add 50 = .ok (.aload_n 0, 1) := by decide +kernel
theorem dX7_add_51 : decode cX7_add 51 = .ok (.getfield 36, 3) := by decide +kernel
theorem dX7_add_54 : decode cX7_add 54 = .ok (.iconst 1, 1) := by decide +kernel
theorem dX7_add_55 : decode cX7_add 55 = .ok (.isub, 1) := by decide +kernel
theorem dX7_add_56 : decode cX7_add 56 = .ok (.ireturn, 1) := by decide +kernel
theorem dX8_copyFrom_0 : decode cX8_copyFrom 0 = .ok (.aload_n 1, 1) := by decide +kernel
theorem dX8_copyFrom_1 : decode cX8_copyFrom 1 = .ok (.ifnonnull 4, 3) := by decide +kernel
theorem dX8_copyFrom_5 : decode cX8_copyFrom 5 = .ok (.iconst 0, 1) := by decide +kernel
theorem dX8_copyFrom_6 : decode cX8_copyFrom 6 = .ok (.istore_n 2, 1) := by decide +kernel
theorem dX8_copyFrom_7 : decode cX8_copyFrom 7 = .ok (.iload_n 2, 1) := by decide +kernel
theorem dX8_copyFrom_8 : decode cX8_copyFrom 8 = .ok (.bipush 6, 2) := by decide +kernel
theorem dX8_copyFrom_10 : decode cX8_copyFrom 10 = .ok (.if_icmp .ge 57, 3) := by decide +kernel
theorem dX8_copyFrom_13 : decode cX8_copyFrom 13 = .ok (.aload_n 0, 1) := by decide +kernel
theorem dX8_copyFrom_14 : decode cX8_copyFrom 14 = .ok (.getfield 9, 3) := by decide +kernel
theorem dX8_copyFrom_17 : decode cX8_copyFrom 17 = .ok (.iload_n 2, 1) := by decide +kernel
theorem dX8_copyFrom_18 : decode cX8_copyFrom 18 = .ok (.aload_n 1, 1) := by decide +kernel
theorem dX8_copyFrom_19 : decode cX8_copyFrom 19 = .ok (.getfield 9, 3) := by decide +kernel
theorem dX8_copyFrom_22 : decode cX8_copyFrom 22 = .ok (.iload_n 2, 1) := by decide +kernel
theorem dX8_copyFrom_23 : decode cX8_copyFrom 23 = .ok (.iaload, 1) := by decide +kernel
theorem dX8_copyFrom_24 : decode cX8_copyFrom 24 = .ok (.iastore, 1) := by decide +kernel
theorem dX8_copyFrom_25 : decode cX8_copyFrom 25 = .ok (.aload_n 0, 1) := by decide +kernel
theorem dX8_copyFrom_26 : decode cX8_copyFrom 26 = .ok (.getfield 15, 3) := by decide +kernel
theorem dX8_copyFrom_29 : decode cX8_copyFrom 29 = .ok (.iload_n 2, 1) := by decide +kernel
theorem dX8_copyFrom_30 : decode cX8_copyFrom 30 = .ok (.aload_n 1, 1) := by decide +kernel
theorem dX8_copyFrom_31 : decode cX8_copyFrom 31 = .ok (.getfield 15, 3) := by decide +kernel
theorem dX8_copyFrom_34 : decode cX8_copyFrom 34 = .ok (.iload_n 2, 1) := by decide +kernel
theorem dX8_copyFrom_35 : decode cX8_copyFrom 35 = .ok (.iaload, 1) := by decide +kernel
theorem dX8_copyFrom_36 : decode cX8_copyFrom 36 = .ok (.iastore, 1) := by decide +kernel
theorem dX8_copyFrom_37 : decode cX8_copyFrom 37 = .ok (.aload_n 0, 1) := by decide +kernel
theorem dX8_copyFrom_38 : decode cX8_copyFrom 38 = .ok (.getfield 18, 3) := by decide +kernel
theorem dX8_copyFrom_41 : decode cX8_copyFrom 41 = .ok (.iload_n 2, 1) := by decide +kernel
theorem dX8_copyFrom_42 : decode cX8_copyFrom 42 = .ok (.aload_n 1, 1) := by decide +kernel
theorem dX8_copyFrom_43 : decode cX8_copyFrom 43 = .ok (.getfield 18, 3) := by decide +kernel
theorem dX8_copyFrom_46 : decode cX8_copyFrom 46 = .ok (.iload_n 2, 1) := by decide +kernel
theorem dX8_copyFrom_47 : decode cX8_copyFrom 47 = .ok (.iaload, 1) := by decide +kernel
theorem dX8_copyFrom_48 : decode cX8_copyFrom 48 = .ok (.iastore, 1) := by decide +kernel
theorem dX8_copyFrom_49 : decode cX8_copyFrom 49 = .ok (.aload_n 0, 1) := by decide +kernel
theorem dX8_copyFrom_50 : decode cX8_copyFrom 50 = .ok (.getfield 21, 3) := by decide +kernel
theorem dX8_copyFrom_53 : decode cX8_copyFrom 53 = .ok (.iload_n 2, 1) := by decide +kernel
theorem dX8_copyFrom_54 : decode cX8_copyFrom 54 = .ok (.aload_n 1, 1) := by decide +kernel
theorem dX8_copyFrom_55 : decode cX8_copyFrom 55 = .ok (.getfield 21, 3) := by decide +kernel
theorem dX8_copyFrom_58 : decode cX8_copyFrom 58 = .ok (.iload_n 2, 1) := by decide +kernel
theorem dX8_copyFrom_59 : decode cX8_copyFrom 59 = .ok (.iaload, 1) := by decide +kernel
theorem dX8_copyFrom_60 : decode cX8_copyFrom 60 = .ok (.iastore, 1) := by decide +kernel
theorem dX8_copyFrom_61 : decode cX8_copyFrom 61 = .ok (.iinc 2 1, 3) := by decide +kernel
theorem dX8_copyFrom_64 : decode cX8_copyFrom 64 = .ok (.goto (-57), 3) := by decide +kernel
theorem dX8_copyFrom_67 : decode cX8_copyFrom 67 = .ok (.aload_n 0, 1) := by decide +kernel
theorem dX8_copyFrom_68 : decode cX8_copyFrom 68 = .ok (.aload_n 1, 1) := by decide +kernel
theorem dX8_copyFrom_69 : decode cX8_copyFrom 69 = .ok (.getfield 33, 3) := by decide +kernel
theorem dX8_copyFrom_72 : decode cX8_copyFrom 72 = .ok (.putfield 33, 3) := by decide +kernel
theorem dX8_copyFrom_75 : decode cX8_copyFrom 75 = .ok (.iconst 0, 1) := by decide +kernel
theorem dX8_copyFrom_76 : decode cX8_copyFrom 76 = .ok (.istore_n 2, 1) := by decide +kernel
theorem dX8_copyFrom_77 : decode cX8_copyFrom 77 = .ok (.iload_n 2, 1) := by decide +kernel
theorem dX8_copyFrom_78 : decode cX8_copyFrom 78 = .ok (.bipush 10, 2) := by decide +kernel
theorem dX8_copyFrom_80 : decode cX8_copyFrom 80 = .ok (.if_icmp .ge 45, 3) := by decide +kernel
theorem dX8_copyFrom_83 : decode cX8_copyFrom 83 = .ok (.aload_n 0, 1) := by decide +kernel
theorem dX8_copyFrom_84 : decode cX8_copyFrom 84 = .ok (.getfield 24, 3) := by decide +kernel
theorem dX8_copyFrom_87 : decode cX8_copyFrom 87 = .ok (.iload_n 2, 1) := by decide +kernel
theorem dX8_copyFrom_88 : decode cX8_copyFrom 88 = .ok (.aload_n 1, 1) := by decide +kernel
theorem dX8_copyFrom_89 : decode cX8_copyFrom 89 = .ok (.getfield 24, 3) := by decide +kernel
theorem dX8_copyFrom_92 : decode cX8_copyFrom 92 = .ok (.iload_n 2, 1) := by decide +kernel
theorem dX8_copyFrom_93 : decode cX8_copyFrom 93 = .ok (.iaload, 1) := by decide +kernel
theorem dX8_copyFrom_94 : decode cX8_copyFrom 94 = .ok (.iastore, 1) := by decide +kernel
theorem dX8_copyFrom_95 : decode cX8_copyFrom 95 = .ok (.aload_n 0, 1) := by decide +kernel
theorem dX8_copyFrom_96 : decode cX8_copyFrom 96 = .ok (.getfield 27, 3) := by decide +kernel
theorem dX8_copyFrom_99 : decode cX8_copyFrom 99 = .ok (.iload_n 2, 1) := by decide +kernel
theorem dX8_copyFrom_100 : decode cX8_copyFrom 100 = .ok (.aload_n 1, 1) := by decide +kernel
theorem dX8_copyFrom_101 : decode cX8_copyFrom 101 = .ok (.getfield 27, 3) := by decide +kernel
theorem dX8_copyFrom_104 : decode cX8_copyFrom 104 = .ok (.iload_n 2, 1) := by decide +kernel
theorem dX8_copyFrom_105 : decode cX8_copyFrom 105 = .ok (.iaload, 1) := by decide +kernel
theorem dX8_copyFrom_106 : decode cX8_copyFrom 106 = .ok (.iastore, 1) := by decide +kernel
theorem dX8_copyFrom_107 : decode cX8_copyFrom 107 = .ok (.aload_n 0, 1) := by decide +kernel
theorem dX8_copyFrom_108 : decode cX8_copyFrom 108 = .ok (.getfield 30, 3) := by decide +kernel
theorem dX8_copyFrom_111 : decode cX8_copyFrom 111 = .ok (.iload_n 2, 1) := by decide +kernel
theorem dX8_copyFrom_112 : decode cX8_copyFrom 112 = .ok (.aload_n 1, 1) := by decide +kernel
theorem dX8_copyFrom_113 : decode cX8_copyFrom 113 = .ok (.getfield 30, 3) := by decide +kernel
theorem dX8_copyFrom_116 : decode cX8_copyFrom 116 = .ok (.iload_n 2, 1) := by decide +kernel
theorem dX8_copyFrom_117 : decode cX8_copyFrom 117 = .ok (.iaload, 1) := by decide +kernel
theorem dX8_copyFrom_118 : decode cX8_copyFrom 118 = .ok (.iastore, 1) := by decide +kernel
theorem dX8_copyFrom_119 : decode cX8_copyFrom 119 = .ok (.iinc 2 1, 3) := by decide +kernel
theorem dX8_copyFrom_122 : decode cX8_copyFrom 122 = .ok (.goto (-45), 3) := by decide +kernel
theorem dX8_copyFrom_125 : decode cX8_copyFrom 125 = .ok (.return_, 1) := by decide +kernel
theorem dX8_addEnd_0 : decode cX8_addEnd 0 = .ok (.aload_n 0, 1) := by decide +kernel
theorem dX8_addEnd_1 : decode cX8_addEnd 1 = .ok (.getfield 33, 3) := by decide +kernel
theorem dX8_addEnd_4 : decode cX8_addEnd 4 = .ok (.bipush 10, 2) := by decide +kernel
theorem dX8_addEnd_6 : decode cX8_addEnd 6 = .ok (.if_icmp .ge 14, 3) := by decide +kernel
theorem dX8_addEnd_9 : decode cX8_addEnd 9 = .ok (.iconst 1, 1) := by decide +kernel
theorem dX8_addEnd_10 : decode cX8_addEnd 10 = .ok (.iload_n 2, 1) := by decide +kernel
theorem dX8_addEnd_11 : decode cX8_addEnd 11 = .ok (.sipush 2000, 3) := by decide +kernel
theorem dX8_addEnd_14 : decode cX8_addEnd 14 = .ok (.invokestatic 37, 3) := by decide +kernel
theorem dX8_addEnd_17 : decode cX8_addEnd 17 = .ok (.ifCond .ne 5, 3) := by decide +kernel
theorem dX8_addEnd_20 : decode cX8_addEnd 20 = .ok (.iconst (-1), 1) := by decide +kernel
theorem dX8_addEnd_21 : decode cX8_addEnd 21 = .ok (.ireturn, 1) := by decide +kernel
theorem dX8_addEnd_22 : decode cX8_addEnd 22 = .ok (.aload_n 0, 1) := by decide +kernel
theorem dX8_addEnd_23 : decode cX8_addEnd 23 = .ok (.getfield 24, 3) := by decide +kernel
theorem dX8_addEnd_26 : decode cX8_addEnd 26 = .ok (.aload_n 0, 1) := by decide +kernel
theorem dX8_addEnd_27 : decode cX8_addEnd 27 = .ok (.getfield 33, 3) := by decide +kernel
theorem dX8_addEnd_30 : decode cX8_addEnd 30 = .ok (.iload_n 1, 1) := by decide +kernel
theorem dX8_addEnd_31 : decode cX8_addEnd 31 = .ok (.iastore, 1) := by decide +kernel
theorem dX8_addEnd_32 : decode cX8_addEnd 32 = .ok (.aload_n 0, 1) := by decide +kernel
theorem dX8_addEnd_33 : decode cX8_addEnd 33 = .ok (.getfield 27, 3) := by decide +kernel
theorem dX8_addEnd_36 : decode cX8_addEnd 36 = .ok (.aload_n 0, 1) := by decide +kernel
theorem dX8_addEnd_37 : decode cX8_addEnd 37 = .ok (.getfield 33, 3) := by decide +kernel
theorem dX8_addEnd_40 : decode cX8_addEnd 40 = .ok (.iload_n 2, 1) := by decide +kernel
theorem dX8_addEnd_41 : decode cX8_addEnd 41 = .ok (.iastore, 1) := by decide +kernel
theorem dX8_addEnd_42 : decode cX8_addEnd 42 = .ok (.aload_n 0, 1) := by decide +kernel
theorem dX8_addEnd_43 : decode cX8_addEnd 43 = .ok (.getfield 30, 3) := by decide +kernel
theorem dX8_addEnd_46 : decode cX8_addEnd 46 = .ok (.aload_n 0, 1) := by decide +kernel
theorem dX8_addEnd_47 : decode cX8_addEnd 47 = .ok (.getfield 33, 3) := by decide +kernel
theorem dX8_addEnd_50 : decode cX8_addEnd 50 = .ok (.iload_n 3, 1) := by decide +kernel
theorem dX8_addEnd_51 : decode cX8_addEnd 51 = .ok (.iastore, 1) := by decide +kernel
theorem dX8_addEnd_52 : decode cX8_addEnd 52 = .ok (.aload_n 0, 1) := by decide +kernel
theorem dX8_addEnd_53 : decode cX8_addEnd 53 = .ok (.dup, 1) := by decide +kernel
theorem dX8_addEnd_54 : decode cX8_addEnd 54 = .ok (.getfield 33, 3) := by decide +kernel
theorem dX8_addEnd_57 : decode cX8_addEnd 57 = .ok (.iconst 1, 1) := by decide +kernel
theorem dX8_addEnd_58 : decode cX8_addEnd 58 = .ok (.iadd, 1) := by decide +kernel
theorem dX8_addEnd_59 : decode cX8_addEnd 59 = .ok (.putfield 33, 3) := by decide +kernel
theorem dX8_addEnd_62 : decode cX8_addEnd 62 = .ok (.aload_n 0, 1) := by decide +kernel
theorem dX8_addEnd_63 : decode cX8_addEnd 63 = .ok (.getfield 33, 3) := by decide +kernel
theorem dX8_addEnd_66 : decode cX8_addEnd 66 = .ok (.iconst 1, 1) := by decide +kernel
theorem dX8_addEnd_67 : decode cX8_addEnd 67 = .ok (.isub, 1) := by decide +kernel
theorem dX8_addEnd_68 : decode cX8_addEnd 68 = .ok (.ireturn, 1) := by decide +kernel
theorem dX9_hasSpaceFor_0 : decode cX9_hasSpaceFor 0 = .ok (.iload_n 1, 1) := by decide +kernel
theorem dX9_hasSpaceFor_1 : decode cX9_hasSpaceFor 1 = .ok (.ifCond .lt 19, 3) := by decide +kernel
theorem dX9_hasSpaceFor_4 : decode cX9_hasSpaceFor 4 = .ok (.iload_n 1, 1) := by decide +kernel
theorem dX9_hasSpaceFor_5 : decode cX9_hasSpaceFor 5 = .ok (.sipush 400, 3) := by decide +kernel
theorem dX9_hasSpaceFor_8 : decode cX9_hasSpaceFor 8 = .ok (.aload_n 0, 1) := by decide +kernel
theorem dX9_hasSpaceFor_9 : decode cX9_hasSpaceFor 9 = .ok (.getfield 22, 3) := by decide +kernel
theorem dX9_hasSpaceFor_12 : decode cX9_hasSpaceFor 12 = .ok (.isub, 1) := by decide +kernel
theorem dX9_hasSpaceFor_13 : decode cX9_hasSpaceFor 13 = .ok (.if_icmp .gt 7, 3) := by decide +kernel
theorem dX9_hasSpaceFor_16 : decode cX9_hasSpaceFor 16 = .ok (.iconst 1, 1) := by decide +kernel
theorem dX9_hasSpaceFor_17 : decode cX9_hasSpaceFor 17 = .ok (.goto 4, 3) := by decide +kernel
theorem dX9_hasSpaceFor_20 : decode cX9_hasSpaceFor 20 = .ok (.iconst 0, 1) := by decide +kernel
theorem dX9_hasSpaceFor_21 : decode cX9_hasSpaceFor 21 = .ok (.ireturn, 1) := by decide +kernel
theorem dX9_add_0 : decode cX9_add 0 = .ok (.aload_n 0, 1) := by decide +kernel
theorem dX9_add_1 : decode cX9_add 1 = .ok (.iconst 4, 1) := by decide +kernel
theorem dX9_add_2 : decode cX9_add 2 = .ok (.invokevirtual 26, 3) := by decide +kernel
theorem dX9_add_5 : decode cX9_add 5 = .ok (.ifCond .ne 4, 3) := by decide +kernel
theorem dX9_add_9 : decode cX9_add 9 = .ok (.bipush 24, 2) := by decide +kernel
theorem dX9_add_11 : decode cX9_add 11 = .ok (.istore_n 2, 1) := by decide +kernel
theorem dX9_add_12 : decode cX9_add 12 = .ok (.iload_n 2, 1) := by decide +kernel
theorem dX9_add_13 : decode cX9_add 13 = .ok (.ifCond .lt 35, 3) := by decide +kernel
theorem dX9_add_16 : decode cX9_add 16 = .ok (.aload_n 0, 1) := by decide +kernel
theorem dX9_add_17 : decode cX9_add 17 = .ok (.getfield 9, 3) := by decide +kernel
theorem dX9_add_20 : decode cX9_add 20 = .ok (.aload_n 0, 1) := by decide +kernel
theorem dX9_add_21 : decode cX9_add 21 = .ok (.getfield 22, 3) := by decide +kernel
theorem dX9_add_24 : decode cX9_add 24 = .ok (.iload_n 1, 1) := by decide +kernel
theorem dX9_add_25 : decode cX9_add 25 = .ok (.iload_n 2, 1) := by decide +kernel
theorem dX9_add_26 : decode cX9_add 26 = .ok (.iushr, 1) := by decide +kernel
theorem dX9_add_27 : decode cX9_add 27 = .ok (.sipush 255, 3) := by decide +kernel
theorem dX9_add_30 : decode cX9_add 30 = .ok (.iand, 1) := by decide +kernel
theorem dX9_add_31 : decode cX9_add 31 = .ok (.iastore, 1) := by decide +kernel
theorem dX9_add_32 : decode cX9_add 32 = .ok (.aload_n 0, 1) := by decide +kernel
theorem dX9_add_33 : decode cX9_add 33 = .ok (.dup, 1) := by decide +kernel
theorem dX9_add_34 : decode cX9_add 34 = .ok (.getfield 22, 3) := by decide +kernel
theorem dX9_add_37 : decode cX9_add 37 = .ok (.iconst 1, 1) := by decide +kernel
theorem dX9_add_38 : decode cX9_add 38 = .ok (.iadd, 1) := by decide +kernel
theorem dX9_add_39 : decode cX9_add 39 = .ok (.putfield 22, 3) := by decide +kernel
theorem dX9_add_42 : decode cX9_add 42 = .ok (.iinc 2 (-8), 3) := by decide +kernel
theorem dX9_add_45 : decode cX9_add 45 = .ok (.goto (-33), 3) := by decide +kernel
theorem dX9_add_48 : decode cX9_add 48 = .ok (.return_, 1) := by decide +kernel
theorem dX9_shorten_0 : decode cX9_shorten 0 = .ok (.iconst 0, 1) := by decide +kernel
theorem dX9_shorten_1 : decode cX9_shorten 1 = .ok (.iload_n 1, 1) := by decide +kernel
theorem dX9_shorten_2 : decode cX9_shorten 2 = .ok (.aload_n 0, 1) := by decide +kernel
theorem dX9_shorten_3 : decode cX9_shorten 3 = .ok (.getfield 22, 3) := by decide +kernel
theorem dX9_shorten_6 : decode cX9_shorten 6 = .ok (.invokestatic 30, 3) := by decide +kernel
theorem dX9_shorten_9 : decode cX9_shorten 9 = .ok (.ifCond .ne 5, 3) := by decide +kernel
theorem dX9_shorten_12 : decode cX9_shorten 12 = .ok (.iconst 0, 1) := by decide +kernel
theorem dX9_shorten_13 : decode cX9_shorten 13 = .ok (.ireturn, 1) := by decide +kernel
theorem dX9_shorten_14 : decode cX9_shorten 14 = .ok (.aload_n 0, 1) := by decide +kernel
theorem dX9_shorten_15 : decode cX9_shorten 15 = .ok (.iload_n 1, 1) := by decide +kernel
theorem dX9_shorten_16 : decode cX9_shorten 16 = .ok (.putfield 22, 3) := by decide +kernel
theorem dX9_shorten_19 : decode cX9_shorten 19 = .ok (.iconst 1, 1) := by decide +kernel
theorem dX9_shorten_20 : decode cX9_shorten 20 = .ok (.ireturn, 1) := by decide +kernel
theorem dX9_split_0 : decode cX9_split 0 = .ok (.aload_n 0, 1) := by decide +kernel
theorem dX9_split_1 : decode cX9_split 1 = .ok (.iconst 0, 1) := by decide +kernel
theorem dX9_split_2 : decode cX9_split 2 = .ok (.putfield 36, 3) := by decide +kernel
theorem dX9_split_5 : decode cX9_split 5 = .ok (.iconst 0, 1) := by decide +kernel
theorem dX9_split_6 : decode cX9_split 6 = .ok (.istore_n 1, 1) := by decide +kernel
theorem dX9_split_7 : decode cX9_split 7 = .ok (.iload_n 1, 1) := by decide +kernel
theorem dX9_split_8 : decode cX9_split 8 = .ok (.aload_n 0, 1) := by decide +kernel
theorem dX9_split_9 : decode cX9_split 9 = .ok (.getfield 22, 3) := by decide +kernel
theorem dX9_split_12 : decode cX9_split 12 = .ok (.if_icmp .ge 138, 3) := by decide +kernel
theorem dX9_split_15 : decode cX9_split 15 = .ok (.iload_n 1, 1) := by decide +kernel
theorem dX9_split_16 : decode cX9_split 16 = .ok (.iconst 1, 1) := by decide +kernel
theorem dX9_split_17 : decode cX9_split 17 = .ok (.iadd, 1) := by decide +kernel
theorem dX9_split_18 : decode cX9_split 18 = .ok (.istore_n 2, 1) := by decide +kernel
theorem dX9_split_19 : decode cX9_split 19 = .ok (.bipush 97, 2) := by decide +kernel
theorem dX9_split_21 : decode cX9_split 21 = .ok (.aload_n 0, 1) := by decide +kernel
theorem dX9_split_22 : decode cX9_split 22 = .ok (.getfield 9, 3) := by decide +kernel
theorem dX9_split_25 : decode cX9_split 25 = .ok (.iload_n 1, 1) := by decide +kernel
theorem dX9_split_26 : decode cX9_split 26 = .ok (.iaload, 1) := by decide +kernel
theorem dX9_split_27 : decode cX9_split 27 = .ok (.bipush 122, 2) := by decide +kernel
theorem dX9_split_29 : decode cX9_split 29 = .ok (.invokestatic 30, 3) := by decide +kernel
theorem dX9_split_32 : decode cX9_split 32 = .ok (.ifCond .eq 28, 3) := by decide +kernel
theorem dX9_split_35 : decode cX9_split 35 = .ok (.aload_n 0, 1) := by decide +kernel
theorem dX9_split_36 : decode cX9_split 36 = .ok (.iload_n 1, 1) := by decide +kernel
theorem dX9_split_37 : decode cX9_split 37 = .ok (.bipush 97, 2) := by decide +kernel
theorem dX9_split_39 : decode cX9_split 39 = .ok (.bipush 122, 2) := by decide +kernel
theorem dX9_split_41 : decode cX9_split 41 = .ok (.invokevirtual 39, 3) := by decide +kernel
theorem dX9_split_44 : decode cX9_split 44 = .ok (.istore_n 2, 1) := by decide +kernel
theorem dX9_split_45 : decode cX9_split 45 = .ok (.aload_n 0, 1) := by decide +kernel
theorem dX9_split_46 : decode cX9_split 46 = .ok (.aload_n 0, 1) := by decide +kernel
theorem dX9_split_47 : decode cX9_split 47 = .ok (.iload_n 1, 1) := by decide +kernel
theorem dX9_split_48 : decode cX9_split 48 = .ok (.iload_n 2, 1) := by decide +kernel
theorem dX9_split_49 : decode cX9_split 49 = .ok (.invokevirtual 43, 3) := by decide +kernel
theorem dX9_split_52 : decode cX9_split 52 = .ok (.iload_n 1, 1) := by decide +kernel
theorem dX9_split_53 : decode cX9_split 53 = .ok (.iconst 0, 1) := by decide +kernel
theorem dX9_split_54 : decode cX9_split 54 = .ok (.invokevirtual 47, 3) := by decide +kernel
theorem dX9_split_57 : decode cX9_split 57 = .ok (.goto 82, 3) := by decide +kernel
theorem dX9_split_60 : decode cX9_split 60 = .ok (.bipush 48, 2) := by decide +kernel
theorem dX9_split_62 : decode cX9_split 62 = .ok (.aload_n 0, 1) := by decide +kernel
theorem dX9_split_63 : decode cX9_split 63 = .ok (.getfield 9, 3) := by decide +kernel
theorem dX9_split_66 : decode cX9_split 66 = .ok (.iload_n 1, 1) := by decide +kernel
theorem dX9_split_67 : decode cX9_split 67 = .ok (.iaload, 1) := by decide +kernel
theorem dX9_split_68 : decode cX9_split 68 = .ok (.bipush 57, 2) := by decide +kernel
theorem dX9_split_70 : decode cX9_split 70 = .ok (.invokestatic 30, 3) := by decide +kernel
theorem dX9_split_73 : decode cX9_split 73 = .ok (.ifCond .eq 29, 3) := by decide +kernel
theorem dX9_split_76 : decode cX9_split 76 = .ok (.aload_n 0, 1) := by decide +kernel
theorem dX9_split_77 : decode cX9_split 77 = .ok (.iload_n 1, 1) := by decide +kernel
theorem dX9_split_78 : decode cX9_split 78 = .ok (.bipush 48, 2) := by decide +kernel
theorem dX9_split_80 : decode cX9_split 80 = .ok (.bipush 57, 2) := by decide +kernel
theorem dX9_split_82 : decode cX9_split 82 = .ok (.invokevirtual 39, 3) := by decide +kernel
theorem dX9_split_85 : decode cX9_split 85 = .ok (.istore_n 2, 1) := by decide +kernel
theorem dX9_split_86 : decode cX9_split 86 = .ok (.aload_n 0, 1) := by decide +kernel
theorem dX9_split_87 : decode cX9_split 87 = .ok (.bipush 6, 2) := by decide +kernel
theorem dX9_split_89 : decode cX9_split 89 = .ok (.iload_n 1, 1) := by decide +kernel
theorem dX9_split_90 : decode cX9_split 90 = .ok (.aload_n 0, 1) := by decide +kernel
theorem dX9_split_91 : decode cX9_split 91 = .ok (.iload_n 1, 1) := by decide +kernel
theorem dX9_split_92 : decode cX9_split 92 = .ok (.iload_n 2, 1) := by decide +kernel
theorem dX9_split_93 : decode cX9_split 93 = .ok (.invokevirtual 51, 3) := by decide +kernel
theorem dX9_split_96 : decode cX9_split 96 = .ok (.invokevirtual 47, 3) := by decide +kernel
theorem dX9_split_99 : decode cX9_split 99 = .ok (.goto 40, 3) := by decide +kernel
theorem dX9_split_102 : decode cX9_split 102 = .ok (.aload_n 0, 1) := by decide +kernel
theorem dX9_split_103 : decode cX9_split 103 = .ok (.getfield 9, 3) := by decide +kernel
theorem dX9_split_106 : decode cX9_split 106 = .ok (.iload_n 1, 1) := by decide +kernel
theorem dX9_split_107 : decode cX9_split 107 = .ok (.iaload, 1) := by decide +kernel
theorem dX9_split_108 : decode cX9_split 108 = .ok (.bipush 32, 2) := by decide +kernel
theorem dX9_split_110 : decode cX9_split 110 = .ok (.if_icmp .eq 29, 3) := by decide +kernel
theorem dX9_split_113 : decode cX9_split 113 = .ok (.aload_n 0, 1) := by decide +kernel
theorem dX9_split_114 : decode cX9_split 114 = .ok (.getfield 9, 3) := by decide +kernel
theorem dX9_split_117 : decode cX9_split 117 = .ok (.iload_n 1, 1) := by decide +kernel
theorem dX9_split_118 : decode cX9_split 118 = .ok (.iaload, 1) := by decide +kernel
theorem dX9_split_119 : decode cX9_split 119 = .ok (.bipush 10, 2) := by decide +kernel
theorem dX9_split_121 : decode cX9_split 121 = .ok (.if_icmp .eq 18, 3) := by decide +kernel
theorem dX9_split_124 : decode cX9_split 124 = .ok (.aload_n 0, 1) := by decide +kernel
theorem dX9_split_125 : decode cX9_split 125 = .ok (.aload_n 0, 1) := by decide +kernel
theorem dX9_split_126 : decode cX9_split 126 = .ok (.getfield 9, 3) := by decide +kernel
theorem dX9_split_129 : decode cX9_split 129 = .ok (.iload_n 1, 1) := by decide +kernel
theorem dX9_split_130 : decode cX9_split 130 = .ok (.iaload, 1) := by decide +kernel
theorem dX9_split_131 : decode cX9_split 131 = .ok (.invokestatic 54, 3) := by decide +kernel
theorem dX9_split_134 : decode cX9_split 134 = .ok (.iload_n 1, 1) := by decide +kernel
theorem dX9_split_135 : decode cX9_split 135 = .ok (.iconst 0, 1) := by decide +kernel
theorem dX9_split_136 : decode cX9_split 136 = .ok (.invokevirtual 47, 3) := by decide +kernel
theorem dX9_split_139 : decode cX9_split 139 = .ok (.iload_n 1, 1) := by decide +kernel
theorem dX9_split_140 : decode cX9_split 140 = .ok (.iconst 1, 1) := by decide +kernel
theorem dX9_split_141 : decode cX9_split 141 = .ok (.iadd, 1) := by decide +kernel
theorem dX9_split_142 : decode cX9_split 142 = .ok (.iload_n 2, 1) := by decide +kernel
theorem dX9_split_143 : decode cX9_split 143 = .ok (.invokestatic 58, 3) := by decide +kernel
theorem dX9_split_146 : decode cX9_split 146 = .ok (.istore_n 1, 1) := by decide +kernel
theorem dX9_split_147 : decode cX9_split 147 = .ok (.goto (-140), 3) := by decide +kernel
theorem dX9_split_150 : decode cX9_split 150 = .ok (.aload_n 0, 1) := by decide +kernel
theorem dX9_split_151 : decode cX9_split 151 = .ok (.bipush 10, 2) := by decide +kernel
theorem dX9_split_153 : decode cX9_split 153 = .ok (.aload_n 0, 1) := by decide +kernel
theorem dX9_split_154 : decode cX9_split 154 = .ok (.getfield 22, 3) := by decide +kernel
theorem dX9_split_157 : decode cX9_split 157 = .ok (.iconst 0, 1) := by decide +kernel
theorem dX9_split_158 : decode cX9_split 158 = .ok (.invokevirtual 47, 3) := by decide +kernel
theorem dX9_split_161 : decode cX9_split 161 = .ok (.return_, 1) := by decide +kernel
theorem dX9_addToken_0 : decode cX9_addToken 0 = .ok (.aload_n 0, 1) := by decide +kernel
theorem dX9_addToken_1 : decode cX9_addToken 1 = .ok (.getfield 36, 3) := by decide +kernel
theorem dX9_addToken_4 : decode cX9_addToken 4 = .ok (.sipush 400, 3) := by decide +kernel
theorem dX9_addToken_7 : decode cX9_addToken 7 = .ok (.if_icmp .le 4, 3) := by decide +kernel
theorem dX9_addToken_11 : decode cX9_addToken 11 = .ok (.aload_n 0, 1) := by decide +kernel
