theorem dX6_addOpening_1 : decode cX6_addOpening 1 = .ok (.getfield 50, 3) := by decide +kernel
theorem dX6_addOpening_4 : decode cX6_addOpening 4 = .ok (.bipush 8, 2) := by decide +kernel
theorem dX6_addOpening_6 : decode cX6_addOpening 6 = .ok (.if_icmp .lt 4, 3) := by decide +kernel
theorem dX6_addOpening_9 : decode cX6_addOpening 9 = .ok (.return_, 1) := by decide +kernel
theorem dX6_addOpening_10 : decode cX6_addOpening 10 = .ok (.aload_n 0, 1) := by decide +kernel
theorem dX6_addOpening_11 : decode cX6_addOpening 11 = .ok (.getfield 18, 3) := by decide +kernel
theorem dX6_addOpening_14 : decode cX6_addOpening 14 = .ok (.aload_n 0, 1) := by decide +kernel
theorem dX6_addOpening_15 : decode cX6_addOpening 15 = .ok (.getfield 50, 3) := by decide +kernel
theorem dX6_addOpening_18 : decode cX6_addOpening 18 = .ok (.iload_n 1, 1) := by decide +kernel
theorem dX6_addOpening_19 : decode cX6_addOpening 19 = .ok (.bastore, 1) := by decide +kernel
theorem dX6_addOpening_20 : decode cX6_addOpening 20 = .ok (.aload_n 0, 1) := by decide +kernel
theorem dX6_addOpening_21 : decode cX6_addOpening 21 = .ok (.getfield 22, 3) := by decide +kernel
theorem dX6_addOpening_24 : decode cX6_addOpening 24 = .ok (.aload_n 0, 1) := by decide +kernel
theorem dX6_addOpening_25 : decode cX6_addOpening 25 = .ok (.getfield 50, 3) := by decide +kernel
theorem dX6_addOpening_28 : decode cX6_addOpening 28 = .ok (.iload_n 2, 1) := by decide +kernel
theorem dX6_addOpening_29 : decode cX6_addOpening 29 = .ok (.iastore, 1) := by decide +kernel
theorem dX6_addOpening_30 : decode cX6_addOpening 30 = .ok (.aload_n 0, 1) := by decide +kernel
theorem dX6_addOpening_31 : decode cX6_addOpening 31 = .ok (.getfield 26, 3) := by decide +kernel
theorem dX6_addOpening_34 : decode cX6_addOpening 34 = .ok (.aload_n 0, 1) := by decide +kernel
theorem dX6_addOpening_35 : decode cX6_addOpening 35 = .ok (.getfield 50, 3) := by decide +kernel
theorem dX6_addOpening_38 : decode cX6_addOpening 38 = .ok (.iload_n 3, 1) := by decide +kernel
theorem dX6_addOpening_39 : decode cX6_addOpening 39 = .ok (.iastore, 1) := by decide +kernel
theorem dX6_addOpening_40 : decode cX6_addOpening 40 = .ok (.aload_n 0, 1) := by decide +kernel
theorem dX6_addOpening_41 : decode cX6_addOpening 41 = .ok (.getfield 29, 3) := by decide +kernel
theorem dX6_addOpening_44 : decode cX6_addOpening 44 = .ok (.aload_n 0, 1) := by decide +kernel
theorem dX6_addOpening_45 : decode cX6_addOpening 45 = .ok (.getfield 50, 3) := by decide +kernel
theorem dX6_addOpening_48 : decode cX6_addOpening 48 = .ok (.iload 4, 2) := by decide +kernel
theorem dX6_addOpening_50 : decode cX6_addOpening 50 = .ok (.iastore, 1) := by decide +kernel
theorem dX6_addOpening_51 : decode cX6_addOpening 51 = .ok (.aload_n 0, 1) := by decide +kernel
theorem dX6_addOpening_52 : decode cX6_addOpening 52 = .ok (.getfield 32, 3) := by decide +kernel
theorem dX6_addOpening_55 : decode cX6_addOpening 55 = .ok (.aload_n 0, 1) := by decide +kernel
theorem dX6_addOpening_56 : decode cX6_addOpening 56 = .ok (.getfield 50, 3) := by decide +kernel
theorem dX6_addOpening_59 : decode cX6_addOpening 59 = .ok (.iload 5, 2) := by decide +kernel
theorem dX6_addOpening_61 : decode cX6_addOpening 61 = .ok (.iastore, 1) := by decide +kernel
theorem dX6_addOpening_62 : decode cX6_addOpening 62 = .ok (.aload_n 0, 1) := by decide +kernel
theorem dX6_addOpening_63 : decode cX6_addOpening 63 = .ok (.getfield 35, 3) := by decide +kernel
theorem dX6_addOpening_66 : decode cX6_addOpening 66 = .ok (.aload_n 0, 1) := by decide +kernel
theorem dX6_addOpening_67 : decode cX6_addOpening 67 = .ok (.getfield 50, 3) := by decide +kernel
theorem dX6_addOpening_70 : decode cX6_addOpening 70 = .ok (.iload 6, 2) := by decide +kernel
theorem dX6_addOpening_72 : decode cX6_addOpening 72 = .ok (.iastore, 1) := by decide +kernel
theorem dX6_addOpening_73 : decode cX6_addOpening 73 = .ok (.aload_n 0, 1) := by decide +kernel
theorem dX6_addOpening_74 : decode cX6_addOpening 74 = .ok (.dup, 1) := by decide +kernel
theorem dX6_addOpening_75 : decode cX6_addOpening 75 = .ok (.getfield 50, 3) := by decide +kernel
theorem dX6_addOpening_78 : decode cX6_addOpening 78 = .ok (.iconst 1, 1) := by decide +kernel
theorem dX6_addOpening_79 : decode cX6_addOpening 79 = .ok (.iadd, 1) := by decide +kernel
theorem dX6_addOpening_80 : decode cX6_addOpening 80 = .ok (.putfield 50, 3) := by decide +kernel
theorem dX6_addOpening_83 : decode cX6_addOpening 83 = .ok (.return_, 1) := by decide +kernel
theorem dX6_addStand_0 : decode cX6_addStand 0 = .ok (.aload_n 0, 1) := by decide +kernel
theorem dX6_addStand_1 : decode cX6_addStand 1 = .ok (.getfield 54, 3) := by decide +kernel
theorem dX6_addStand_4 : decode cX6_addStand 4 = .ok (.iconst 4, 1) := by decide +kernel
theorem dX6_addStand_5 : decode cX6_addStand 5 = .ok (.if_icmp .lt 4, 3) := by decide +kernel
theorem dX6_addStand_8 : decode cX6_addStand 8 = .ok (.return_, 1) := by decide +kernel
theorem dX6_addStand_9 : decode cX6_addStand 9 = .ok (.aload_n 0, 1) := by decide +kernel
theorem dX6_addStand_10 : decode cX6_addStand 10 = .ok (.getfield 38, 3) := by decide +kernel
theorem dX6_addStand_13 : decode cX6_addStand 13 = .ok (.aload_n 0, 1) := by decide +kernel
theorem dX6_addStand_14 : decode cX6_addStand 14 = .ok (.getfield 54, 3) := by decide +kernel
theorem dX6_addStand_17 : decode cX6_addStand 17 = .ok (.iload_n 1, 1) := by decide +kernel
theorem dX6_addStand_18 : decode cX6_addStand 18 = .ok (.iastore, 1) := by decide +kernel
theorem dX6_addStand_19 : decode cX6_addStand 19 = .ok (.aload_n 0, 1) := by decide +kernel
theorem dX6_addStand_20 : decode cX6_addStand 20 = .ok (.getfield 41, 3) := by decide +kernel
theorem dX6_addStand_23 : decode cX6_addStand 23 = .ok (.aload_n 0, 1) := by decide +kernel
theorem dX6_addStand_24 : decode cX6_addStand 24 = .ok (.getfield 54, 3) := by decide +kernel
theorem dX6_addStand_27 : decode cX6_addStand 27 = .ok (.iload_n 2, 1) := by decide +kernel
theorem dX6_addStand_28 : decode cX6_addStand 28 = .ok (.iastore, 1) := by decide +kernel
theorem dX6_addStand_29 : decode cX6_addStand 29 = .ok (.aload_n 0, 1) := by decide +kernel
theorem dX6_addStand_30 : decode cX6_addStand 30 = .ok (.getfield 44, 3) := by decide +kernel
theorem dX6_addStand_33 : decode cX6_addStand 33 = .ok (.aload_n 0, 1) := by decide +kernel
theorem dX6_addStand_34 : decode cX6_addStand 34 = .ok (.getfield 54, 3) := by decide +kernel
theorem dX6_addStand_37 : decode cX6_addStand 37 = .ok (.iload_n 3, 1) := by decide +kernel
theorem dX6_addStand_38 : decode cX6_addStand 38 = .ok (.iastore, 1) := by decide +kernel
theorem dX6_addStand_39 : decode cX6_addStand 39 = .ok (.aload_n 0, 1) := by decide +kernel
theorem dX6_addStand_40 : decode cX6_addStand 40 = .ok (.dup, 1) := by decide +kernel
theorem dX6_addStand_41 : decode cX6_addStand 41 = .ok (.getfield 54, 3) := by decide +kernel
theorem dX6_addStand_44 : decode cX6_addStand 44 = .ok (.iconst 1, 1) := by decide +kernel
theorem dX6_addStand_45 : decode cX6_addStand 45 = .ok (.iadd, 1) := by decide +kernel
theorem dX6_addStand_46 : decode cX6_addStand 46 = .ok (.putfield 54, 3) := by decide +kernel
theorem dX6_addStand_49 : decode cX6_addStand 49 = .ok (.return_, 1) := by decide +kernel
theorem dX6_isWindow_0 : decode cX6_isWindow 0 = .ok (.iconst 0, 1) := by decide +kernel
theorem dX6_isWindow_1 : decode cX6_isWindow 1 = .ok (.iload_n 1, 1) := by decide +kernel
theorem dX6_isWindow_2 : decode cX6_isWindow 2 = .ok (.aload_n 0, 1) := by decide +kernel
theorem dX6_isWindow_3 : decode cX6_isWindow 3 = .ok (.getfield 50, 3) := by decide +kernel
theorem dX6_isWindow_6 : decode cX6_isWindow 6 = .ok (.iconst 1, 1) := by decide +kernel
theorem dX6_isWindow_7 : decode cX6_isWindow 7 = .ok (.isub, 1) := by decide +kernel
theorem dX6_isWindow_8 : decode cX6_isWindow 8 = .ok (.invokestatic 57, 3) := by decide +kernel
theorem dX6_isWindow_11 : decode cX6_isWindow 11 = .ok (.ifCond .eq 16, 3) := by decide +kernel
theorem dX6_isWindow_14 : decode cX6_isWindow 14 = .ok (.aload_n 0, 1) := by decide +kernel
theorem dX6_isWindow_15 : decode cX6_isWindow 15 = .ok (.getfield 18, 3) := by decide +kernel
theorem dX6_isWindow_18 : decode cX6_isWindow 18 = .ok (.iload_n 1, 1) := by decide +kernel
theorem dX6_isWindow_19 : decode cX6_isWindow 19 = .ok (.baload, 1) := by decide +kernel
theorem dX6_isWindow_20 : decode cX6_isWindow 20 = .ok (.ifCond .ne 7, 3) := by decide +kernel
theorem dX6_isWindow_23 : decode cX6_isWindow 23 = .ok (.iconst 1, 1) := by decide +kernel
theorem dX6_isWindow_24 : decode cX6_isWindow 24 = .ok (.goto 4, 3) := by decide +kernel
theorem dX6_isWindow_27 : decode cX6_isWindow 27 = .ok (.iconst 0, 1) := by decide +kernel
theorem dX6_isWindow_28 : decode cX6_isWindow 28 = .ok (.ireturn, 1) := by decide +kernel
theorem dX6_lowerOf_0 : decode cX6_lowerOf 0 = .ok (.iconst 0, 1) := by decide +kernel
theorem dX6_lowerOf_1 : decode cX6_lowerOf 1 = .ok (.iload_n 1, 1) := by decide +kernel
theorem dX6_lowerOf_2 : decode cX6_lowerOf 2 = .ok (.aload_n 0, 1) := by decide +kernel
theorem dX6_lowerOf_3 : decode cX6_lowerOf 3 = .ok (.getfield 50, 3) := by decide +kernel
theorem dX6_lowerOf_6 : decode cX6_lowerOf 6 = .ok (.iconst 1, 1) := by decide +kernel
theorem dX6_lowerOf_7 : decode cX6_lowerOf 7 = .ok (.isub, 1) := by decide +kernel
theorem dX6_lowerOf_8 : decode cX6_lowerOf 8 = .ok (.invokestatic 57, 3) := by decide +kernel
theorem dX6_lowerOf_11 : decode cX6_lowerOf 11 = .ok (.ifCond .eq 12, 3) := by decide +kernel
theorem dX6_lowerOf_14 : decode cX6_lowerOf 14 = .ok (.aload_n 0, 1) := by decide +kernel
theorem dX6_lowerOf_15 : decode cX6_lowerOf 15 = .ok (.getfield 32, 3) := by decide +kernel
theorem dX6_lowerOf_18 : decode cX6_lowerOf 18 = .ok (.iload_n 1, 1) := by decide +kernel
theorem dX6_lowerOf_19 : decode cX6_lowerOf 19 = .ok (.iaload, 1) := by decide +kernel
theorem dX6_lowerOf_20 : decode cX6_lowerOf 20 = .ok (.goto 4, 3) := by decide +kernel
theorem dX6_lowerOf_23 : decode cX6_lowerOf 23 = .ok (.iconst 0, 1) := by decide +kernel
theorem dX6_lowerOf_24 : decode cX6_lowerOf 24 = .ok (.ireturn, 1) := by decide +kernel
theorem dX6_upperOf_0 : decode cX6_upperOf 0 = .ok (.iconst 0, 1) := by decide +kernel
theorem dX6_upperOf_1 : decode cX6_upperOf 1 = .ok (.iload_n 1, 1) := by decide +kernel
theorem dX6_upperOf_2 : decode cX6_upperOf 2 = .ok (.aload_n 0, 1) := by decide +kernel
theorem dX6_upperOf_3 : decode cX6_upperOf 3 = .ok (.getfield 50, 3) := by decide +kernel
theorem dX6_upperOf_6 : decode cX6_upperOf 6 = .ok (.iconst 1, 1) := by decide +kernel
theorem dX6_upperOf_7 : decode cX6_upperOf 7 = .ok (.isub, 1) := by decide +kernel
theorem dX6_upperOf_8 : decode cX6_upperOf 8 = .ok (.invokestatic 57, 3) := by decide +kernel
theorem dX6_upperOf_11 : decode cX6_upperOf 11 = .ok (.ifCond .eq 12, 3) := by decide +kernel
theorem dX6_upperOf_14 : decode cX6_upperOf 14 = .ok (.aload_n 0, 1) := by decide +kernel
theorem dX6_upperOf_15 : decode cX6_upperOf 15 = .ok (.getfield 35, 3) := by decide +kernel
theorem dX6_upperOf_18 : decode cX6_upperOf 18 = .ok (.iload_n 1, 1) := by decide +kernel
theorem dX6_upperOf_19 : decode cX6_upperOf 19 = .ok (.iaload, 1) := by decide +kernel
theorem dX6_upperOf_20 : decode cX6_upperOf 20 = .ok (.goto 4, 3) := by decide +kernel
theorem dX6_upperOf_23 : decode cX6_upperOf 23 = .ok (.iconst 0, 1) := by decide +kernel
theorem dX6_upperOf_24 : decode cX6_upperOf 24 = .ok (.ireturn, 1) := by decide +kernel
theorem dX6_lies_0 : decode cX6_lies 0 = .ok (.aload_n 0, 1) := by decide +kernel
theorem dX6_lies_1 : decode cX6_lies 1 = .ok (.getfield 22, 3) := by decide +kernel
theorem dX6_lies_4 : decode cX6_lies 4 = .ok (.iload_n 3, 1) := by decide +kernel
theorem dX6_lies_5 : decode cX6_lies 5 = .ok (.iaload, 1) := by decide +kernel
theorem dX6_lies_6 : decode cX6_lies 6 = .ok (.iload_n 1, 1) := by decide +kernel
theorem dX6_lies_7 : decode cX6_lies 7 = .ok (.if_icmp .ne 26, 3) := by decide +kernel
theorem dX6_lies_10 : decode cX6_lies 10 = .ok (.aload_n 0, 1) := by decide +kernel
theorem dX6_lies_11 : decode cX6_lies 11 = .ok (.getfield 26, 3) := by decide +kernel
theorem dX6_lies_14 : decode cX6_lies 14 = .ok (.iload_n 3, 1) := by decide +kernel
theorem dX6_lies_15 : decode cX6_lies 15 = .ok (.iaload, 1) := by decide +kernel
theorem dX6_lies_16 : decode cX6_lies 16 = .ok (.iload_n 2, 1) := by decide +kernel
theorem dX6_lies_17 : decode cX6_lies 17 = .ok (.aload_n 0, 1) := by decide +kernel
theorem dX6_lies_18 : decode cX6_lies 18 = .ok (.getfield 29, 3) := by decide +kernel
theorem dX6_lies_21 : decode cX6_lies 21 = .ok (.iload_n 3, 1) := by decide +kernel
theorem dX6_lies_22 : decode cX6_lies 22 = .ok (.iaload, 1) := by decide +kernel
theorem dX6_lies_23 : decode cX6_lies 23 = .ok (.invokestatic 57, 3) := by decide +kernel
theorem dX6_lies_26 : decode cX6_lies 26 = .ok (.ifCond .eq 7, 3) := by decide +kernel
theorem dX6_lies_29 : decode cX6_lies 29 = .ok (.iconst 1, 1) := by decide +kernel
theorem dX6_lies_30 : decode cX6_lies 30 = .ok (.goto 4, 3) := by decide +kernel
theorem dX6_lies_33 : decode cX6_lies 33 = .ok (.iconst 0, 1) := by decide +kernel
theorem dX6_lies_34 : decode cX6_lies 34 = .ok (.ireturn, 1) := by decide +kernel
theorem dX6_openingWith_0 : decode cX6_openingWith 0 = .ok (.iconst 0, 1) := by decide +kernel
theorem dX6_openingWith_1 : decode cX6_openingWith 1 = .ok (.istore 4, 2) := by decide +kernel
theorem dX6_openingWith_3 : decode cX6_openingWith 3 = .ok (.iload 4, 2) := by decide +kernel
theorem dX6_openingWith_5 : decode cX6_openingWith 5 = .ok (.aload_n 0, 1) := by decide +kernel
theorem dX6_openingWith_6 : decode cX6_openingWith 6 = .ok (.getfield 50, 3) := by decide +kernel
theorem dX6_openingWith_9 : decode cX6_openingWith 9 = .ok (.if_icmp .ge 34, 3) := by decide +kernel
theorem dX6_openingWith_12 : decode cX6_openingWith 12 = .ok (.aload_n 0, 1) := by decide +kernel
theorem dX6_openingWith_13 : decode cX6_openingWith 13 = .ok (.iload_n 1, 1) := by decide +kernel
theorem dX6_openingWith_14 : decode cX6_openingWith 14 = .ok (.iload_n 2, 1) := by decide +kernel
theorem dX6_openingWith_15 : decode cX6_openingWith 15 = .ok (.iload 4, 2) := by decide +kernel
theorem dX6_openingWith_17 : decode cX6_openingWith 17 = .ok (.invokevirtual 61, 3) := by decide +kernel
theorem dX6_openingWith_20 : decode cX6_openingWith 20 = .ok (.ifCond .eq 17, 3) := by decide +kernel
theorem dX6_openingWith_23 : decode cX6_openingWith 23 = .ok (.aload_n 0, 1) := by decide +kernel
theorem dX6_openingWith_24 : decode cX6_openingWith 24 = .ok (.iload_n 1, 1) := by decide +kernel
theorem dX6_openingWith_25 : decode cX6_openingWith 25 = .ok (.iload_n 3, 1) := by decide +kernel
theorem dX6_openingWith_26 : decode cX6_openingWith 26 = .ok (.iload 4, 2) := by decide +kernel
theorem dX6_openingWith_28 : decode cX6_openingWith 28 = .ok (.invokevirtual 61, 3) := by decide +kernel
theorem dX6_openingWith_31 : decode cX6_openingWith 31 = .ok (.ifCond .eq 6, 3) := by decide +kernel
theorem dX6_openingWith_34 : decode cX6_openingWith 34 = .ok (.iload 4, 2) := by decide +kernel
theorem dX6_openingWith_36 : decode cX6_openingWith 36 = .ok (.ireturn, 1) := by decide +kernel
theorem dX6_openingWith_37 : decode cX6_openingWith 37 = .ok (.iinc 4 1, 3) := by decide +kernel
theorem dX6_openingWith_40 : decode cX6_openingWith 40 = .ok (.goto (-37), 3) := by decide +kernel
theorem dX6_openingWith_43 : decode cX6_openingWith 43 = .ok (.iconst (-1), 1) := by decide +kernel
theorem dX6_openingWith_44 : decode cX6_openingWith 44 = .ok (.ireturn, 1) := by decide +kernel
theorem dX6_opensAt_0 : decode cX6_opensAt 0 = .ok (.iconst 0, 1) := by decide +kernel
theorem dX6_opensAt_1 : decode cX6_opensAt 1 = .ok (.istore 5, 2) := by decide +kernel
theorem dX6_opensAt_3 : decode cX6_opensAt 3 = .ok (.iload 5, 2) := by decide +kernel
theorem dX6_opensAt_5 : decode cX6_opensAt 5 = .ok (.aload_n 0, 1) := by decide +kernel
theorem dX6_opensAt_6 : decode cX6_opensAt 6 = .ok (.getfield 50, 3) := by decide +kernel
theorem dX6_opensAt_9 : decode cX6_opensAt 9 = .ok (.if_icmp .ge 45, 3) := by decide +kernel
theorem dX6_opensAt_12 : decode cX6_opensAt 12 = .ok (.aload_n 0, 1) := by decide +kernel
theorem dX6_opensAt_13 : decode cX6_opensAt 13 = .ok (.iload_n 1, 1) := by decide +kernel
theorem dX6_opensAt_14 : decode cX6_opensAt 14 = .ok (.iload_n 2, 1) := by decide +kernel
theorem dX6_opensAt_15 : decode cX6_opensAt 15 = .ok (.iload 5, 2) := by decide +kernel
theorem dX6_opensAt_17 : decode cX6_opensAt 17 = .ok (.invokevirtual 61, 3) := by decide +kernel
theorem dX6_opensAt_20 : decode cX6_opensAt 20 = .ok (.ifCond .eq 28, 3) := by decide +kernel
theorem dX6_opensAt_23 : decode cX6_opensAt 23 = .ok (.aload_n 0, 1) := by decide +kernel
theorem dX6_opensAt_24 : decode cX6_opensAt 24 = .ok (.getfield 32, 3) := by decide +kernel
theorem dX6_opensAt_27 : decode cX6_opensAt 27 = .ok (.iload 5, 2) := by decide +kernel
theorem dX6_opensAt_29 : decode cX6_opensAt 29 = .ok (.iaload, 1) := by decide +kernel
theorem dX6_opensAt_30 : decode cX6_opensAt 30 = .ok (.iload 4, 2) := by decide +kernel
theorem dX6_opensAt_32 : decode cX6_opensAt 32 = .ok (.if_icmp .ge 16, 3) := by decide +kernel
theorem dX6_opensAt_35 : decode cX6_opensAt 35 = .ok (.aload_n 0, 1) := by decide +kernel
theorem dX6_opensAt_36 : decode cX6_opensAt 36 = .ok (.getfield 35, 3) := by decide +kernel
theorem dX6_opensAt_39 : decode cX6_opensAt 39 = .ok (.iload 5, 2) := by decide +kernel
theorem dX6_opensAt_41 : decode cX6_opensAt 41 = .ok (.iaload, 1) := by decide +kernel
theorem dX6_opensAt_42 : decode cX6_opensAt 42 = .ok (.iload_n 3, 1) := by decide +kernel
theorem dX6_opensAt_43 : decode cX6_opensAt 43 = .ok (.if_icmp .le 5, 3) := by decide +kernel
theorem dX6_opensAt_46 : decode cX6_opensAt 46 = .ok (.iconst 1, 1) := by decide +kernel
theorem dX6_opensAt_47 : decode cX6_opensAt 47 = .ok (.ireturn, 1) := by decide +kernel
theorem dX6_opensAt_48 : decode cX6_opensAt 48 = .ok (.iinc 5 1, 3) := by decide +kernel
theorem dX6_opensAt_51 : decode cX6_opensAt 51 = .ok (.goto (-48), 3) := by decide +kernel
theorem dX6_opensAt_54 : decode cX6_opensAt 54 = .ok (.iconst 0, 1) := by decide +kernel
theorem dX6_opensAt_55 : decode cX6_opensAt 55 = .ok (.ireturn, 1) := by decide +kernel
theorem dX6_doorAtCorner_0 : decode cX6_doorAtCorner 0 = .ok (.aload_n 0, 1) := by decide +kernel
theorem dX6_doorAtCorner_1 : decode cX6_doorAtCorner 1 = .ok (.getfield 12, 3) := by decide +kernel
theorem dX6_doorAtCorner_4 : decode cX6_doorAtCorner 4 = .ok (.iload_n 1, 1) := by decide +kernel
theorem dX6_doorAtCorner_5 : decode cX6_doorAtCorner 5 = .ok (.invokevirtual 64, 3) := by decide +kernel
theorem dX6_doorAtCorner_8 : decode cX6_doorAtCorner 8 = .ok (.istore_n 2, 1) := by decide +kernel
theorem dX6_doorAtCorner_9 : decode cX6_doorAtCorner 9 = .ok (.iconst 0, 1) := by decide +kernel
theorem dX6_doorAtCorner_10 : decode cX6_doorAtCorner 10 = .ok (.istore_n 3, 1) := by decide +kernel
theorem dX6_doorAtCorner_11 : decode cX6_doorAtCorner 11 = .ok (.iload_n 3, 1) := by decide +kernel
theorem dX6_doorAtCorner_12 : decode cX6_doorAtCorner 12 = .ok (.aload_n 0, 1) := by decide +kernel
theorem dX6_doorAtCorner_13 : decode cX6_doorAtCorner 13 = .ok (.getfield 50, 3) := by decide +kernel
theorem dX6_doorAtCorner_16 : decode cX6_doorAtCorner 16 = .ok (.if_icmp .ge 47, 3) := by decide +kernel
theorem dX6_doorAtCorner_19 : decode cX6_doorAtCorner 19 = .ok (.aload_n 0, 1) := by decide +kernel
theorem dX6_doorAtCorner_20 : decode cX6_doorAtCorner 20 = .ok (.getfield 18, 3) := by decide +kernel
theorem dX6_doorAtCorner_23 : decode cX6_doorAtCorner 23 = .ok (.iload_n 3, 1) := by decide +kernel
theorem dX6_doorAtCorner_24 : decode cX6_doorAtCorner 24 = .ok (.baload, 1) := by decide +kernel
theorem dX6_doorAtCorner_25 : decode cX6_doorAtCorner 25 = .ok (.ifCond .eq 32, 3) := by decide +kernel
theorem dX6_doorAtCorner_28 : decode cX6_doorAtCorner 28 = .ok (.aload_n 0, 1) := by decide +kernel
theorem dX6_doorAtCorner_29 : decode cX6_doorAtCorner 29 = .ok (.iload_n 1, 1) := by decide +kernel
theorem dX6_doorAtCorner_30 : decode cX6_doorAtCorner 30 = .ok (.aload_n 0, 1) := by decide +kernel
theorem dX6_doorAtCorner_31 : decode cX6_doorAtCorner 31 = .ok (.getfield 12, 3) := by decide +kernel
theorem dX6_doorAtCorner_34 : decode cX6_doorAtCorner 34 = .ok (.iload_n 1, 1) := by decide +kernel
theorem dX6_doorAtCorner_35 : decode cX6_doorAtCorner 35 = .ok (.invokevirtual 68, 3) := by decide +kernel
theorem dX6_doorAtCorner_38 : decode cX6_doorAtCorner 38 = .ok (.iload_n 3, 1) := by decide +kernel
theorem dX6_doorAtCorner_39 : decode cX6_doorAtCorner 39 = .ok (.invokevirtual 61, 3) := by decide +kernel
theorem dX6_doorAtCorner_42 : decode cX6_doorAtCorner 42 = .ok (.ifCond .ne 13, 3) := by decide +kernel
theorem dX6_doorAtCorner_45 : decode cX6_doorAtCorner 45 = .ok (.aload_n 0, 1) := by decide +kernel
theorem dX6_doorAtCorner_46 : decode cX6_doorAtCorner 46 = .ok (.iload_n 2, 1) := by decide +kernel
theorem dX6_doorAtCorner_47 : decode cX6_doorAtCorner 47 = .ok (.iconst 0, 1) := by decide +kernel
theorem dX6_doorAtCorner_48 : decode cX6_doorAtCorner 48 = .ok (.iload_n 3, 1) := by decide +kernel
theorem dX6_doorAtCorner_49 : decode cX6_doorAtCorner 49 = .ok (.invokevirtual 61, 3) := by decide +kernel
theorem dX6_doorAtCorner_52 : decode cX6_doorAtCorner 52 = .ok (.ifCond .eq 5, 3) := by decide +kernel
theorem dX6_doorAtCorner_55 : decode cX6_doorAtCorner 55 = .ok (.iconst 1, 1) := by decide +kernel
theorem dX6_doorAtCorner_56 : decode cX6_doorAtCorner 56 = .ok (.ireturn, 1) := by decide +kernel
theorem dX6_doorAtCorner_57 : decode cX6_doorAtCorner 57 = .ok (.iinc 3 1, 3) := by decide +kernel
theorem dX6_doorAtCorner_60 : decode cX6_doorAtCorner 60 = .ok (.goto (-49), 3) := by decide +kernel
theorem dX6_doorAtCorner_63 : decode cX6_doorAtCorner 63 = .ok (.iconst 0, 1) := by decide +kernel
theorem dX6_doorAtCorner_64 : decode cX6_doorAtCorner 64 = .ok (.ireturn, 1) := by decide +kernel
theorem dX6_doorsAbove_0 : decode cX6_doorsAbove 0 = .ok (.iconst 0, 1) := by decide +kernel
theorem dX6_doorsAbove_1 : decode cX6_doorsAbove 1 = .ok (.istore_n 2, 1) := by decide +kernel
theorem dX6_doorsAbove_2 : decode cX6_doorsAbove 2 = .ok (.iconst 0, 1) := by decide +kernel
theorem dX6_doorsAbove_3 : decode cX6_doorsAbove 3 = .ok (.istore_n 3, 1) := by decide +kernel
theorem dX6_doorsAbove_4 : decode cX6_doorsAbove 4 = .ok (.iload_n 3, 1) := by decide +kernel
theorem dX6_doorsAbove_5 : decode cX6_doorsAbove 5 = .ok (.aload_n 0, 1) := by decide +kernel
theorem dX6_doorsAbove_6 : decode cX6_doorsAbove 6 = .ok (.getfield 50, 3) := by decide +kernel
theorem dX6_doorsAbove_9 : decode cX6_doorsAbove 9 = .ok (.if_icmp .ge 44, 3) := by decide +kernel
theorem dX6_doorsAbove_12 : decode cX6_doorsAbove 12 = .ok (.aload_n 0, 1) := by decide +kernel
theorem dX6_doorsAbove_13 : decode cX6_doorsAbove 13 = .ok (.getfield 18, 3) := by decide +kernel
theorem dX6_doorsAbove_16 : decode cX6_doorsAbove 16 = .ok (.iload_n 3, 1) := by decide +kernel
theorem dX6_doorsAbove_17 : decode cX6_doorsAbove 17 = .ok (.baload, 1) := by decide +kernel
theorem dX6_doorsAbove_18 : decode cX6_doorsAbove 18 = .ok (.ifCond .eq 29, 3) := by decide +kernel
theorem dX6_doorsAbove_21 : decode cX6_doorsAbove 21 = .ok (.aload_n 0, 1) := by decide +kernel
theorem dX6_doorsAbove_22 : decode cX6_doorsAbove 22 = .ok (.getfield 35, 3) := by decide +kernel
theorem dX6_doorsAbove_25 : decode cX6_doorsAbove 25 = .ok (.iload_n 3, 1) := by decide +kernel
theorem dX6_doorsAbove_26 : decode cX6_doorsAbove 26 = .ok (.iaload, 1) := by decide +kernel
theorem dX6_doorsAbove_27 : decode cX6_doorsAbove 27 = .ok (.iload_n 1, 1) := by decide +kernel
theorem dX6_doorsAbove_28 : decode cX6_doorsAbove 28 = .ok (.if_icmp .le 19, 3) := by decide +kernel
theorem dX6_doorsAbove_31 : decode cX6_doorsAbove 31 = .ok (.iload_n 2, 1) := by decide +kernel
theorem dX6_doorsAbove_32 : decode cX6_doorsAbove 32 = .ok (.aload_n 0, 1) := by decide +kernel
theorem dX6_doorsAbove_33 : decode cX6_doorsAbove 33 = .ok (.getfield 29, 3) := by decide +kernel
theorem dX6_doorsAbove_36 : decode cX6_doorsAbove 36 = .ok (.iload_n 3, 1) := by decide +kernel
theorem dX6_doorsAbove_37 : decode cX6_doorsAbove 37 = .ok (.iaload, 1) := by decide +kernel
theorem dX6_doorsAbove_38 : decode cX6_doorsAbove 38 = .ok (.aload_n 0, 1) := by decide +kernel
theorem dX6_doorsAbove_39 : decode cX6_doorsAbove 39 = .ok (.getfield 26, 3) := by decide +kernel
theorem dX6_doorsAbove_42 : decode cX6_doorsAbove 42 = .ok (.iload_n 3, 1) := by decide +kernel
theorem dX6_doorsAbove_43 : decode cX6_doorsAbove 43 = .ok (.iaload, 1) := by decide +kernel
theorem dX6_doorsAbove_44 : decode cX6_doorsAbove 44 = .ok (.isub, 1) := by decide +kernel
theorem dX6_doorsAbove_45 : decode cX6_doorsAbove 45 = .ok (.iadd, 1) := by decide +kernel
theorem dX6_doorsAbove_46 : decode cX6_doorsAbove 46 = .ok (.istore_n 2, 1) := by decide +kernel
theorem dX6_doorsAbove_47 : decode cX6_doorsAbove 47 = .ok (.iinc 3 1, 3) := by decide +kernel
theorem dX6_doorsAbove_50 : decode cX6_doorsAbove 50 = .ok (.goto (-46), 3) := by decide +kernel
theorem dX6_doorsAbove_53 : decode cX6_doorsAbove 53 = .ok (.iload_n 2, 1) := by decide +kernel
theorem dX6_doorsAbove_54 : decode cX6_doorsAbove 54 = .ok (.ireturn, 1) := by decide +kernel
theorem dX6_standPlace_0 : decode cX6_standPlace 0 = .ok (.iconst 0, 1) := by decide +kernel
theorem dX6_standPlace_1 : decode cX6_standPlace 1 = .ok (.iload_n 1, 1) := by decide +kernel
theorem dX6_standPlace_2 : decode cX6_standPlace 2 = .ok (.aload_n 0, 1) := by decide +kernel
theorem dX6_standPlace_3 : decode cX6_standPlace 3 = .ok (.getfield 54, 3) := by decide +kernel
theorem dX6_standPlace_6 : decode cX6_standPlace 6 = .ok (.iconst 1, 1) := by decide +kernel
theorem dX6_standPlace_7 : decode cX6_standPlace 7 = .ok (.isub, 1) := by decide +kernel
theorem dX6_standPlace_8 : decode cX6_standPlace 8 = .ok (.invokestatic 57, 3) := by decide +kernel
theorem dX6_standPlace_11 : decode cX6_standPlace 11 = .ok (.ifCond .eq 36, 3) := by decide +kernel
theorem dX6_standPlace_14 : decode cX6_standPlace 14 = .ok (.aload_n 0, 1) := by decide +kernel
theorem dX6_standPlace_15 : decode cX6_standPlace 15 = .ok (.getfield 12, 3) := by decide +kernel
theorem dX6_standPlace_18 : decode cX6_standPlace 18 = .ok (.aload_n 0, 1) := by decide +kernel
theorem dX6_standPlace_19 : decode cX6_standPlace 19 = .ok (.getfield 38, 3) := by decide +kernel
theorem dX6_standPlace_22 : decode cX6_standPlace 22 = .ok (.iload_n 1, 1) := by decide +kernel
theorem dX6_standPlace_23 : decode cX6_standPlace 23 = .ok (.iaload, 1) := by decide +kernel
theorem dX6_standPlace_24 : decode cX6_standPlace 24 = .ok (.invokevirtual 71, 3) := by decide +kernel
theorem dX6_standPlace_27 : decode cX6_standPlace 27 = .ok (.aload_n 0, 1) := by decide +kernel
theorem dX6_standPlace_28 : decode cX6_standPlace 28 = .ok (.getfield 41, 3) := by decide +kernel
theorem dX6_standPlace_31 : decode cX6_standPlace 31 = .ok (.iload_n 1, 1) := by decide +kernel
theorem dX6_standPlace_32 : decode cX6_standPlace 32 = .ok (.iaload, 1) := by decide +kernel
theorem dX6_standPlace_33 : decode cX6_standPlace 33 = .ok (.iadd, 1) := by decide +kernel
theorem dX6_standPlace_34 : decode cX6_standPlace 34 = .ok (.aload_n 0, 1) := by decide +kernel
theorem dX6_standPlace_35 : decode cX6_standPlace 35 = .ok (.getfield 12, 3) := by decide +kernel
theorem dX6_standPlace_38 : decode cX6_standPlace 38 = .ok (.getfield 74, 3) := by decide +kernel
theorem dX6_standPlace_41 : decode cX6_standPlace 41 = .ok (.invokestatic 77, 3) := by decide +kernel
theorem dX6_standPlace_44 : decode cX6_standPlace 44 = .ok (.goto 4, 3) := by decide +kernel
theorem dX6_standPlace_47 : decode cX6_standPlace 47 = .ok (.iconst 0, 1) := by decide +kernel
theorem dX6_standPlace_48 : decode cX6_standPlace 48 = .ok (.ireturn, 1) := by decide +kernel
theorem dX6_standY_0 : decode cX6_standY 0 = .ok (.iconst 0, 1) := by decide +kernel
theorem dX6_standY_1 : decode cX6_standY 1 = .ok (.iload_n 1, 1) := by decide +kernel
theorem dX6_standY_2 : decode cX6_standY 2 = .ok (.aload_n 0, 1) := by decide +kernel
theorem dX6_standY_3 : decode cX6_standY 3 = .ok (.getfield 54, 3) := by decide +kernel
theorem dX6_standY_6 : decode cX6_standY 6 = .ok (.iconst 1, 1) := by decide +kernel
theorem dX6_standY_7 : decode cX6_standY 7 = .ok (.isub, 1) := by decide +kernel
theorem dX6_standY_8 : decode cX6_standY 8 = .ok (.invokestatic 57, 3) := by decide +kernel
theorem dX6_standY_11 : decode cX6_standY 11 = .ok (.ifCond .eq 12, 3) := by decide +kernel
theorem dX6_standY_14 : decode cX6_standY 14 = .ok (.aload_n 0, 1) := by decide +kernel
theorem dX6_standY_15 : decode cX6_standY 15 = .ok (.getfield 44, 3) := by decide +kernel
theorem dX6_standY_18 : decode cX6_standY 18 = .ok (.iload_n 1, 1) := by decide +kernel
theorem dX6_standY_19 : decode cX6_standY 19 = .ok (.iaload, 1) := by decide +kernel
theorem dX6_standY_20 : decode cX6_standY 20 = .ok (.goto 4, 3) := by decide +kernel
theorem dX6_standY_23 : decode cX6_standY 23 = .ok (.iconst 0, 1) := by decide +kernel
theorem dX6_standY_24 : decode cX6_standY 24 = .ok (.ireturn, 1) := by decide +kernel
theorem dX7_add_0 : decode cX7_add 0 = .ok (.aload_n 0, 1) := by decide +kernel
theorem dX7_add_1 : decode cX7_add 1 = .ok (.getfield 36, 3) := by decide +kernel
theorem dX7_add_4 : decode cX7_add 4 = .ok (.iconst 4, 1) := by decide +kernel
theorem dX7_add_5 : decode cX7_add 5 = .ok (.if_icmp .ge 13, 3) := by decide +kernel
theorem dX7_add_8 : decode cX7_add 8 = .ok (.iconst 1, 1) := by decide +kernel
theorem dX7_add_9 : decode cX7_add 9 = .ok (.iload_n 2, 1) := by decide +kernel
theorem dX7_add_10 : decode cX7_add 10 = .ok (.bipush 30, 2) := by decide +kernel
theorem dX7_add_12 : decode cX7_add 12 = .ok (.invokestatic 40, 3) := by decide +kernel
theorem dX7_add_15 : decode cX7_add 15 = .ok (.ifCond .ne 5, 3) := by decide +kernel
theorem dX7_add_18 : decode cX7_add 18 = .ok (.iconst (-1), 1) := by decide +kernel
theorem dX7_add_19 : decode cX7_add 19 = .ok (.ireturn, 1) := by decide +kernel
theorem dX7_add_20 : decode cX7_add 20 = .ok (.aload_n 0, 1) := by decide +kernel
theorem dX7_add_21 : decode cX7_add 21 = .ok (.getfield 11, 3) := by decide +kernel
theorem dX7_add_24 : decode cX7_add 24 = .ok (.aload_n 0, 1) := by decide +kernel
theorem dX7_add_25 : decode cX7_add 25 = .ok (.getfield 36, 3) := by decide +kernel
theorem dX7_add_28 : decode cX7_add 28 = .ok (.iload_n 1, 1) := by decide +kernel
theorem dX7_add_29 : decode cX7_add 29 = .ok (.iastore, 1) := by decide +kernel
theorem dX7_add_30 : decode cX7_add 30 = .ok (.aload_n 0, 1) := by decide +kernel
theorem dX7_add_31 : decode cX7_add 31 = .ok (.getfield 15, 3) := by decide +kernel
theorem dX7_add_34 : decode cX7_add 34 = .ok (.aload_n 0, 1) := by decide +kernel
theorem dX7_add_35 : decode cX7_add 35 = .ok (.getfield 36, 3) := by decide +kernel
theorem dX7_add_38 : decode cX7_add 38 = .ok (.iload_n 2, 1) := by decide +kernel
theorem dX7_add_39 : decode cX7_add 39 = .ok (.iastore, 1) := by decide +kernel
theorem dX7_add_40 : decode cX7_add 40 = .ok (.aload_n 0, 1) := by decide +kernel
theorem dX7_add_41 : decode cX7_add 41 = .ok (.dup, 1) := by decide +kernel
theorem dX7_add_42 : decode cX7_add 42 = .ok (.getfield 36, 3) := by decide +kernel
theorem dX7_add_45 : decode cX7_add 45 = .ok (.iconst 1, 1) := by decide +kernel
theorem dX7_add_46 : decode cX7_add 46 = .ok (.iadd, 1) := by decide +kernel
theorem dX7_add_47 : decode cX7_add 47 = .ok (.putfield 36, 3) := by decide +kernel
theorem dX7_add_50 : decode cX7_add 50 = .ok (.aload_n 0, 1) := by decide +kernel
theorem dX7_add_51 : decode cX7_add 51 = .ok (.getfield 36, 3) := by decide +kernel
theorem dX7_add_54 : decode cX7_add 54 = .ok (.iconst 1, 1) := by decide +kernel
theorem dX7_add_55 : decode cX7_add 55 = .ok (.isub, 1) := by decide +kernel
theorem dX7_add_56 : decode cX7_add 56 = .ok (.ireturn, 1) := by decide +kernel
theorem dX8_copyFrom_0 : decode cX8_copyFrom 0 = .ok (.aload_n 1, 1) := by decide +kernel
theorem dX8_copyFrom_1 : decode cX8_copyFrom 1 = .ok (.ifnonnull 4, 3) := by decide +kernel
theorem dX8_copyFrom_5 : decode cX8_copyFrom 5 = .ok (.iconst 0, 1) := by decide +kernel
theorem dX8_copyFrom_6 : decode cX8_copyFrom 6 = .ok (.istore_n 2, 1) := by decide +kernel
theorem dX8_copyFrom_7 : decode cX8_copyFrom 7 = .ok (.iload_n 2, 1) := by decide +kernel
theorem dX8_copyFrom_8 : decode cX8_copyFrom 8 = .ok (.bipush 6, 2) := by decide +kernel
theorem dX8_copyFrom_10 : decode cX8_copyFrom 10 = .ok (.if_icmp .ge 57, 3) := by decide +kernel
theorem dX8_copyFrom_13 : decode cX8_copyFrom 13 = .ok (.aload_n 0, 1) := by decide +kernel
theorem dX8_copyFrom_14 : decode cX8_copyFrom 14 = .ok (.getfield 9, 3) := by decide +kernel
theorem dX8_copyFrom_17 : decode cX8_copyFrom 17 = .ok (.iload_n 2, 1) := by decide +kernel
theorem dX8_copyFrom_18 : decode cX8_copyFrom 18 = .ok (.aload_n 1, 1) := by decide +kernel
theorem dX8_copyFrom_19 : decode cX8_copyFrom 19 = .ok (.getfield 9, 3) := by decide +kernel
theorem dX8_copyFrom_22 : decode cX8_copyFrom 22 = .ok (.iload_n 2, 1) := by decide +kernel
theorem dX8_copyFrom_23 : decode cX8_copyFrom 23 = .ok (.iaload, 1) := by decide +kernel
theorem dX8_copyFrom_24 : decode cX8_copyFrom 24 = .ok (.iastore, 1) := by decide +kernel
theorem dX8_copyFrom_25 : decode cX8_copyFrom 25 = .ok (.aload_n 0, 1) := by decide +kernel
theorem dX8_copyFrom_26 : decode cX8_copyFrom 26 = .ok (.getfield 15, 3) := by decide +kernel
theorem dX8_copyFrom_29 : decode cX8_copyFrom 29 = .ok (.iload_n 2, 1) := by decide +kernel
theorem dX8_copyFrom_30 : decode cX8_copyFrom 30 = .ok (.aload_n 1, 1) := by decide +kernel
theorem dX8_copyFrom_31 : decode cX8_copyFrom 31 = .ok (.getfield 15, 3) := by decide +kernel
theorem dX8_copyFrom_34 : decode cX8_copyFrom 34 = .ok (.iload_n 2, 1) := by decide +kernel
theorem dX8_copyFrom_35 : decode cX8_copyFrom 35 = .ok (.iaload, 1) := by decide +kernel
theorem dX8_copyFrom_36 : decode cX8_copyFrom 36 = .ok (.iastore, 1) := by decide +kernel
theorem dX8_copyFrom_37 : decode cX8_copyFrom 37 = .ok (.aload_n 0, 1) := by decide +kernel
theorem dX8_copyFrom_38 : decode cX8_copyFrom 38 = .ok (.getfield 18, 3) := by decide +kernel
theorem dX8_copyFrom_41 : decode cX8_copyFrom 41 = .ok (.iload_n 2, 1) := by decide +kernel
theorem dX8_copyFrom_42 : decode cX8_copyFrom 42 = .ok (.aload_n 1, 1) := by decide +kernel
theorem dX8_copyFrom_43 : decode cX8_copyFrom 43 = .ok (.getfield 18, 3) := by decide +kernel
theorem dX8_copyFrom_46 : decode cX8_copyFrom 46 = .ok (.iload_n 2, 1) := by decide +kernel
theorem dX8_copyFrom_47 : decode cX8_copyFrom 47 = .ok (.iaload, 1) := by decide +kernel
theorem dX8_copyFrom_48 : decode cX8_copyFrom 48 = .ok (.iastore, 1) := by decide +kernel
theorem dX8_copyFrom_49 : decode cX8_copyFrom 49 = .ok (.aload_n 0, 1) := by decide +kernel
theorem dX8_copyFrom_50 : decode cX8_copyFrom 50 = .ok (.getfield 21, 3) := by decide +kernel
theorem dX8_copyFrom_53 : decode cX8_copyFrom 53 = .ok (.iload_n 2, 1) := by decide +kernel
theorem dX8_copyFrom_54 : decode cX8_copyFrom 54 = .ok (.aload_n 1, 1) := by decide +kernel
theorem dX8_copyFrom_55 : decode cX8_copyFrom 55 = .ok (.getfield 21, 3) := by decide +kernel
theorem dX8_copyFrom_58 : decode cX8_copyFrom 58 = .ok (.iload_n 2, 1) := by decide +kernel
theorem dX8_copyFrom_59 : decode cX8_copyFrom 59 = .ok (.iaload, 1) := by decide +kernel
theorem dX8_copyFrom_60 : decode cX8_copyFrom 60 = .ok (.iastore, 1) := by decide +kernel
theorem dX8_copyFrom_61 : decode cX8_copyFrom 61 = .ok (.iinc 2 1, 3) := by decide +kernel
theorem dX8_copyFrom_64 : decode cX8_copyFrom 64 = .ok (.goto (-57), 3) := by decide +kernel
theorem dX8_copyFrom_67 : decode cX8_copyFrom 67 = .ok (.aload_n 0, 1) := by decide +kernel
theorem dX8_copyFrom_68 : decode cX8_copyFrom 68 = .ok (.aload_n 1, 1) := by decide +kernel
theorem dX8_copyFrom_69 : decode cX8_copyFrom 69 = .ok (.getfield 33, 3) := by decide +kernel
theorem dX8_copyFrom_72 : decode cX8_copyFrom 72 = .ok (.putfield 33, 3) := by decide +kernel
theorem dX8_copyFrom_75 : decode cX8_copyFrom 75 = .ok (.iconst 0, 1) := by decide +kernel
theorem dX8_copyFrom_76 : decode cX8_copyFrom 76 = .ok (.istore_n 2, 1) := by decide +kernel
theorem dX8_copyFrom_77 : decode cX8_copyFrom 77 = .ok (.iload_n 2, 1) := by decide +kernel
theorem dX8_copyFrom_78 : decode cX8_copyFrom 78 = .ok (.bipush 10, 2) := by decide +kernel
theorem dX8_copyFrom_80 : decode cX8_copyFrom 80 = .ok (.if_icmp .ge 45, 3) := by decide +kernel
theorem dX8_copyFrom_83 : decode cX8_copyFrom 83 = .ok (.aload_n 0, 1) := by decide +kernel
theorem dX8_copyFrom_84 : decode cX8_copyFrom 84 = .ok (.getfield 24, 3) := by decide +kernel
theorem dX8_copyFrom_87 : decode cX8_copyFrom 87 = .ok (.iload_n 2, 1) := by decide +kernel
