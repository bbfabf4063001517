theorem dX4_readStand_89 : decode cX4_readStand 89 = .ok (.getfield 24, 3) := by decide +kernel
theorem dX4_readStand_92 : decode cX4_readStand 92 = .ok (.iload_n 1, 1) := by decide +kernel
theorem dX4_readStand_93 : decode cX4_readStand 93 = .ok (.iload_n 2, 1) := by decide +kernel
theorem dX4_readStand_94 : decode cX4_readStand 94 = .ok (.iload_n 3, 1) := by decide +kernel
theorem dX4_readStand_95 : decode cX4_readStand 95 = .ok (.invokevirtual 120, 3) := by decide +kernel
theorem dX4_readStand_98 : decode cX4_readStand 98 = .ok (.iconst 1, 1) := by decide +kernel
theorem dX4_readStand_99 : decode cX4_readStand 99 = .ok (.ireturn, 1) := by decide +kernel
theorem dX4_readNumber_0 : decode cX4_readNumber 0 = .ok (.aload_n 0, 1) := by decide +kernel
theorem dX4_readNumber_1 : decode cX4_readNumber 1 = .ok (.bipush 6, 2) := by decide +kernel
theorem dX4_readNumber_3 : decode cX4_readNumber 3 = .ok (.invokevirtual 33, 3) := by decide +kernel
theorem dX4_readNumber_6 : decode cX4_readNumber 6 = .ok (.ifCond .eq 23, 3) := by decide +kernel
theorem dX4_readNumber_9 : decode cX4_readNumber 9 = .ok (.iload_n 1, 1) := by decide +kernel
theorem dX4_readNumber_10 : decode cX4_readNumber 10 = .ok (.aload_n 0, 1) := by decide +kernel
theorem dX4_readNumber_11 : decode cX4_readNumber 11 = .ok (.getfield 9, 3) := by decide +kernel
theorem dX4_readNumber_14 : decode cX4_readNumber 14 = .ok (.getfield 110, 3) := by decide +kernel
theorem dX4_readNumber_17 : decode cX4_readNumber 17 = .ok (.aload_n 0, 1) := by decide +kernel
theorem dX4_readNumber_18 : decode cX4_readNumber 18 = .ok (.getfield 20, 3) := by decide +kernel
theorem dX4_readNumber_21 : decode cX4_readNumber 21 = .ok (.iaload, 1) := by decide +kernel
theorem dX4_readNumber_22 : decode cX4_readNumber 22 = .ok (.iload_n 2, 1) := by decide +kernel
theorem dX4_readNumber_23 : decode cX4_readNumber 23 = .ok (.invokestatic 123, 3) := by decide +kernel
theorem dX4_readNumber_26 : decode cX4_readNumber 26 = .ok (.ifCond .ne 5, 3) := by decide +kernel
theorem dX4_readNumber_29 : decode cX4_readNumber 29 = .ok (.iconst (-1), 1) := by decide +kernel
theorem dX4_readNumber_30 : decode cX4_readNumber 30 = .ok (.ireturn, 1) := by decide +kernel
theorem dX4_readNumber_31 : decode cX4_readNumber 31 = .ok (.aload_n 0, 1) := by decide +kernel
theorem dX4_readNumber_32 : decode cX4_readNumber 32 = .ok (.dup, 1) := by decide +kernel
theorem dX4_readNumber_33 : decode cX4_readNumber 33 = .ok (.getfield 20, 3) := by decide +kernel
theorem dX4_readNumber_36 : decode cX4_readNumber 36 = .ok (.iconst 1, 1) := by decide +kernel
theorem dX4_readNumber_37 : decode cX4_readNumber 37 = .ok (.iadd, 1) := by decide +kernel
theorem dX4_readNumber_38 : decode cX4_readNumber 38 = .ok (.putfield 20, 3) := by decide +kernel
theorem dX4_readNumber_41 : decode cX4_readNumber 41 = .ok (.aload_n 0, 1) := by decide +kernel
theorem dX4_readNumber_42 : decode cX4_readNumber 42 = .ok (.getfield 9, 3) := by decide +kernel
theorem dX4_readNumber_45 : decode cX4_readNumber 45 = .ok (.getfield 110, 3) := by decide +kernel
theorem dX4_readNumber_48 : decode cX4_readNumber 48 = .ok (.aload_n 0, 1) := by decide +kernel
theorem dX4_readNumber_49 : decode cX4_readNumber 49 = .ok (.getfield 20, 3) := by decide +kernel
theorem dX4_readNumber_52 : decode cX4_readNumber 52 = .ok (.iconst 1, 1) := by decide +kernel
theorem dX4_readNumber_53 : decode cX4_readNumber 53 = .ok (.isub, 1) := by decide +kernel
theorem dX4_readNumber_54 : decode cX4_readNumber 54 = .ok (.iaload, 1) := by decide +kernel
theorem dX4_readNumber_55 : decode cX4_readNumber 55 = .ok (.ireturn, 1) := by decide +kernel
theorem dX4_readSign_0 : decode cX4_readSign 0 = .ok (.aload_n 0, 1) := by decide +kernel
theorem dX4_readSign_1 : decode cX4_readSign 1 = .ok (.iload_n 1, 1) := by decide +kernel
theorem dX4_readSign_2 : decode cX4_readSign 2 = .ok (.invokevirtual 33, 3) := by decide +kernel
theorem dX4_readSign_5 : decode cX4_readSign 5 = .ok (.ifCond .ne 5, 3) := by decide +kernel
theorem dX4_readSign_8 : decode cX4_readSign 8 = .ok (.iconst 0, 1) := by decide +kernel
theorem dX4_readSign_9 : decode cX4_readSign 9 = .ok (.ireturn, 1) := by decide +kernel
theorem dX4_readSign_10 : decode cX4_readSign 10 = .ok (.aload_n 0, 1) := by decide +kernel
theorem dX4_readSign_11 : decode cX4_readSign 11 = .ok (.dup, 1) := by decide +kernel
theorem dX4_readSign_12 : decode cX4_readSign 12 = .ok (.getfield 20, 3) := by decide +kernel
theorem dX4_readSign_15 : decode cX4_readSign 15 = .ok (.iconst 1, 1) := by decide +kernel
theorem dX4_readSign_16 : decode cX4_readSign 16 = .ok (.iadd, 1) := by decide +kernel
theorem dX4_readSign_17 : decode cX4_readSign 17 = .ok (.putfield 20, 3) := by decide +kernel
theorem dX4_readSign_20 : decode cX4_readSign 20 = .ok (.iconst 1, 1) := by decide +kernel
theorem dX4_readSign_21 : decode cX4_readSign 21 = .ok (.ireturn, 1) := by decide +kernel
theorem dX5_begin_0 : decode cX5_begin 0 = .ok (.aload_n 0, 1) := by decide +kernel
theorem dX5_begin_1 : decode cX5_begin 1 = .ok (.aload_n 1, 1) := by decide +kernel
theorem dX5_begin_2 : decode cX5_begin 2 = .ok (.putfield 26, 3) := by decide +kernel
theorem dX5_begin_5 : decode cX5_begin 5 = .ok (.aload_n 0, 1) := by decide +kernel
theorem dX5_begin_6 : decode cX5_begin 6 = .ok (.iconst 0, 1) := by decide +kernel
theorem dX5_begin_7 : decode cX5_begin 7 = .ok (.putfield 30, 3) := by decide +kernel
theorem dX5_begin_10 : decode cX5_begin 10 = .ok (.return_, 1) := by decide +kernel
theorem dX5_cut_0 : decode cX5_cut 0 = .ok (.iconst 0, 1) := by decide +kernel
theorem dX5_cut_1 : decode cX5_cut 1 = .ok (.istore_n 3, 1) := by decide +kernel
theorem dX5_cut_2 : decode cX5_cut 2 = .ok (.iload_n 3, 1) := by decide +kernel
theorem dX5_cut_3 : decode cX5_cut 3 = .ok (.aload_n 0, 1) := by decide +kernel
theorem dX5_cut_4 : decode cX5_cut 4 = .ok (.getfield 30, 3) := by decide +kernel
theorem dX5_cut_7 : decode cX5_cut 7 = .ok (.if_icmp .ge 49, 3) := by decide +kernel
theorem dX5_cut_10 : decode cX5_cut 10 = .ok (.aload_n 0, 1) := by decide +kernel
theorem dX5_cut_11 : decode cX5_cut 11 = .ok (.getfield 26, 3) := by decide +kernel
theorem dX5_cut_14 : decode cX5_cut 14 = .ok (.aload_n 0, 1) := by decide +kernel
theorem dX5_cut_15 : decode cX5_cut 15 = .ok (.getfield 13, 3) := by decide +kernel
theorem dX5_cut_18 : decode cX5_cut 18 = .ok (.iload_n 3, 1) := by decide +kernel
theorem dX5_cut_19 : decode cX5_cut 19 = .ok (.iaload, 1) := by decide +kernel
theorem dX5_cut_20 : decode cX5_cut 20 = .ok (.iload_n 2, 1) := by decide +kernel
theorem dX5_cut_21 : decode cX5_cut 21 = .ok (.invokevirtual 34, 3) := by decide +kernel
theorem dX5_cut_24 : decode cX5_cut 24 = .ok (.istore 4, 2) := by decide +kernel
theorem dX5_cut_26 : decode cX5_cut 26 = .ok (.iload 4, 2) := by decide +kernel
theorem dX5_cut_28 : decode cX5_cut 28 = .ok (.iload_n 1, 1) := by decide +kernel
theorem dX5_cut_29 : decode cX5_cut 29 = .ok (.iadd, 1) := by decide +kernel
theorem dX5_cut_30 : decode cX5_cut 30 = .ok (.aload_n 0, 1) := by decide +kernel
theorem dX5_cut_31 : decode cX5_cut 31 = .ok (.getfield 26, 3) := by decide +kernel
theorem dX5_cut_34 : decode cX5_cut 34 = .ok (.getfield 40, 3) := by decide +kernel
theorem dX5_cut_37 : decode cX5_cut 37 = .ok (.if_icmp .gt 13, 3) := by decide +kernel
theorem dX5_cut_40 : decode cX5_cut 40 = .ok (.aload_n 0, 1) := by decide +kernel
theorem dX5_cut_41 : decode cX5_cut 41 = .ok (.iload_n 3, 1) := by decide +kernel
theorem dX5_cut_42 : decode cX5_cut 42 = .ok (.iload 4, 2) := by decide +kernel
theorem dX5_cut_44 : decode cX5_cut 44 = .ok (.iload_n 1, 1) := by decide +kernel
theorem dX5_cut_45 : decode cX5_cut 45 = .ok (.invokevirtual 43, 3) := by decide +kernel
theorem dX5_cut_48 : decode cX5_cut 48 = .ok (.iconst 1, 1) := by decide +kernel
theorem dX5_cut_49 : decode cX5_cut 49 = .ok (.ireturn, 1) := by decide +kernel
theorem dX5_cut_50 : decode cX5_cut 50 = .ok (.iinc 3 1, 3) := by decide +kernel
theorem dX5_cut_53 : decode cX5_cut 53 = .ok (.goto (-51), 3) := by decide +kernel
theorem dX5_cut_56 : decode cX5_cut 56 = .ok (.aload_n 0, 1) := by decide +kernel
theorem dX5_cut_57 : decode cX5_cut 57 = .ok (.getfield 30, 3) := by decide +kernel
theorem dX5_cut_60 : decode cX5_cut 60 = .ok (.sipush 2880, 3) := by decide +kernel
theorem dX5_cut_63 : decode cX5_cut 63 = .ok (.if_icmp .ge 16, 3) := by decide +kernel
theorem dX5_cut_66 : decode cX5_cut 66 = .ok (.iload_n 2, 1) := by decide +kernel
theorem dX5_cut_67 : decode cX5_cut 67 = .ok (.iload_n 1, 1) := by decide +kernel
theorem dX5_cut_68 : decode cX5_cut 68 = .ok (.iadd, 1) := by decide +kernel
theorem dX5_cut_69 : decode cX5_cut 69 = .ok (.aload_n 0, 1) := by decide +kernel
theorem dX5_cut_70 : decode cX5_cut 70 = .ok (.getfield 26, 3) := by decide +kernel
theorem dX5_cut_73 : decode cX5_cut 73 = .ok (.getfield 40, 3) := by decide +kernel
theorem dX5_cut_76 : decode cX5_cut 76 = .ok (.if_icmp .le 5, 3) := by decide +kernel
theorem dX5_cut_79 : decode cX5_cut 79 = .ok (.iconst 0, 1) := by decide +kernel
theorem dX5_cut_80 : decode cX5_cut 80 = .ok (.ireturn, 1) := by decide +kernel
theorem dX5_cut_81 : decode cX5_cut 81 = .ok (.aload_n 0, 1) := by decide +kernel
theorem dX5_cut_82 : decode cX5_cut 82 = .ok (.dup, 1) := by decide +kernel
theorem dX5_cut_83 : decode cX5_cut 83 = .ok (.getfield 30, 3) := by decide +kernel
theorem dX5_cut_86 : decode cX5_cut 86 = .ok (.iconst 1, 1) := by decide +kernel
theorem dX5_cut_87 : decode cX5_cut 87 = .ok (.iadd, 1) := by decide +kernel
theorem dX5_cut_88 : decode cX5_cut 88 = .ok (.putfield 30, 3) := by decide +kernel
theorem dX5_cut_91 : decode cX5_cut 91 = .ok (.aload_n 0, 1) := by decide +kernel
theorem dX5_cut_92 : decode cX5_cut 92 = .ok (.aload_n 0, 1) := by decide +kernel
theorem dX5_cut_93 : decode cX5_cut 93 = .ok (.getfield 30, 3) := by decide +kernel
theorem dX5_cut_96 : decode cX5_cut 96 = .ok (.iconst 1, 1) := by decide +kernel
theorem dX5_cut_97 : decode cX5_cut 97 = .ok (.isub, 1) := by decide +kernel
theorem dX5_cut_98 : decode cX5_cut 98 = .ok (.iload_n 2, 1) := by decide +kernel
theorem dX5_cut_99 : decode cX5_cut 99 = .ok (.iload_n 1, 1) := by decide +kernel
theorem dX5_cut_100 : decode cX5_cut 100 = .ok (.invokevirtual 43, 3) := by decide +kernel
theorem dX5_cut_103 : decode cX5_cut 103 = .ok (.iconst 1, 1) := by decide +kernel
theorem dX5_cut_104 : decode cX5_cut 104 = .ok (.ireturn, 1) := by decide +kernel
theorem dX5_take_0 : decode cX5_take 0 = .ok (.aload_n 0, 1) := by decide +kernel
theorem dX5_take_1 : decode cX5_take 1 = .ok (.getfield 13, 3) := by decide +kernel
theorem dX5_take_4 : decode cX5_take 4 = .ok (.iload_n 1, 1) := by decide +kernel
theorem dX5_take_5 : decode cX5_take 5 = .ok (.iload_n 2, 1) := by decide +kernel
theorem dX5_take_6 : decode cX5_take 6 = .ok (.iload_n 3, 1) := by decide +kernel
theorem dX5_take_7 : decode cX5_take 7 = .ok (.iadd, 1) := by decide +kernel
theorem dX5_take_8 : decode cX5_take 8 = .ok (.iastore, 1) := by decide +kernel
theorem dX5_take_9 : decode cX5_take 9 = .ok (.aload_n 0, 1) := by decide +kernel
theorem dX5_take_10 : decode cX5_take 10 = .ok (.iload_n 1, 1) := by decide +kernel
theorem dX5_take_11 : decode cX5_take 11 = .ok (.putfield 47, 3) := by decide +kernel
theorem dX5_take_14 : decode cX5_take 14 = .ok (.aload_n 0, 1) := by decide +kernel
theorem dX5_take_15 : decode cX5_take 15 = .ok (.iload_n 2, 1) := by decide +kernel
theorem dX5_take_16 : decode cX5_take 16 = .ok (.putfield 50, 3) := by decide +kernel
theorem dX5_take_19 : decode cX5_take 19 = .ok (.return_, 1) := by decide +kernel
theorem dX6_clear_0 : decode cX6_clear 0 = .ok (.aload_n 0, 1) := by decide +kernel
theorem dX6_clear_1 : decode cX6_clear 1 = .ok (.getfield 12, 3) := by decide +kernel
theorem dX6_clear_4 : decode cX6_clear 4 = .ok (.invokevirtual 47, 3) := by decide +kernel
theorem dX6_clear_7 : decode cX6_clear 7 = .ok (.aload_n 0, 1) := by decide +kernel
theorem dX6_clear_8 : decode cX6_clear 8 = .ok (.iconst 0, 1) := by decide +kernel
theorem dX6_clear_9 : decode cX6_clear 9 = .ok (.putfield 50, 3) := by decide +kernel
theorem dX6_clear_12 : decode cX6_clear 12 = .ok (.aload_n 0, 1) := by decide +kernel
theorem dX6_clear_13 : decode cX6_clear 13 = .ok (.iconst 0, 1) := by decide +kernel
theorem dX6_clear_14 : decode cX6_clear 14 = .ok (.putfield 54, 3) := by decide +kernel
theorem dX6_clear_17 : decode cX6_clear 17 = .ok (.return_, 1) := by decide +kernel
theorem dX6_addOpening_0 : decode cX6_addOpening 0 = .ok (.aload_n 0, 1) := by decide +kernel
theorem dX6_addOpening_1 : decode cX6_addOpening 1 = .ok (.getfield 50, 3) := by decide +kernel
theorem dX6_addOpening_4 : decode cX6_addOpening 4 = .ok (.bipush 8, 2) := by decide +kernel
theorem dX6_addOpening_6 : decode cX6_addOpening 6 = .ok (.if_icmp .lt 4, 3) := by decide +kernel
theorem dX6_addOpening_9 : decode cX6_addOpening 9 = .ok (.return_, 1) := by decide +kernel
theorem dX6_addOpening_10 : decode cX6_addOpening 10 = .ok (.aload_n 0, 1) := by decide +kernel
theorem dX6_addOpening_11 : decode cX6_addOpening 11 = .ok (.getfield 18, 3) := by decide +kernel
theorem dX6_addOpening_14 : decode cX6_addOpening 14 = .ok (.aload_n 0, 1) := by decide +kernel
theorem dX6_addOpening_15 : decode cX6_addOpening 15 = .ok (.getfield 50, 3) := by decide +kernel
theorem dX6_addOpening_18 : decode cX6_addOpening 18 = .ok (.iload_n 1, 1) := by decide +kernel
theorem dX6_addOpening_19 : decode cX6_addOpening 19 = .ok (.bastore, 1) := by decide +kernel
theorem dX6_addOpening_20 : decode cX6_addOpening 20 = .ok (.aload_n 0, 1) := by decide +kernel
theorem dX6_addOpening_21 : decode cX6_addOpening 21 = .ok (.getfield 22, 3) := by decide +kernel
theorem dX6_addOpening_24 : decode cX6_addOpening 24 = .ok (.aload_n 0, 1) := by decide +kernel
theorem dX6_addOpening_25 : decode cX6_addOpening 25 = .ok (.getfield 50, 3) := by decide +kernel
theorem dX6_addOpening_28 : decode cX6_addOpening 28 = .ok (.iload_n 2, 1) := by decide +kernel
theorem dX6_addOpening_29 : decode cX6_addOpening 29 = .ok (.iastore, 1) := by decide +kernel
theorem dX6_addOpening_30 : decode cX6_addOpening 30 = .ok (.aload_n 0, 1) := by decide +kernel
theorem dX6_addOpening_31 : decode cX6_addOpening 31 = .ok (.getfield 26, 3) := by decide +kernel
theorem dX6_addOpening_34 : decode cX6_addOpening 34 = .ok (.aload_n 0, 1) := by decide +kernel
theorem dX6_addOpening_35 : decode cX6_addOpening 35 = .ok (.getfield 50, 3) := by decide +kernel
theorem dX6_addOpening_38 : decode cX6_addOpening 38 = .ok (.iload_n 3, 1) := by decide +kernel
theorem dX6_addOpening_39 : decode cX6_addOpening 39 = .ok (.iastore, 1) := by decide +kernel
theorem dX6_addOpening_40 : decode cX6_addOpening 40 = .ok (.aload_n 0, 1) := by decide +kernel
theorem dX6_addOpening_41 : decode cX6_addOpening 41 = .ok (.getfield 29, 3) := by decide +kernel
theorem dX6_addOpening_44 : decode cX6_addOpening 44 = .ok (.aload_n 0, 1) := by decide +kernel
theorem dX6_addOpening_45 : decode cX6_addOpening 45 = .ok (.getfield 50, 3) := by decide +kernel
theorem dX6_addOpening_48 : decode cX6_addOpening 48 = .ok (.iload 4, 2) := by decide +kernel
theorem dX6_addOpening_50 : decode cX6_addOpening 50 = .ok (.iastore, 1) := by decide +kernel
theorem dX6_addOpening_51 : decode cX6_addOpening 51 = .ok (.aload_n 0, 1) := by decide +kernel
theorem dX6_addOpening_52 : decode cX6_addOpening 52 = .ok (.getfield 32, 3) := by decide +kernel
theorem dX6_addOpening_55 : decode cX6_addOpening 55 = .ok (.aload_n 0, 1) := by decide +kernel
theorem dX6_addOpening_56 : decode cX6_addOpening 56 = .ok (.getfield 50, 3) := by decide +kernel
theorem dX6_addOpening_59 : decode cX6_addOpening 59 = .ok (.iload 5, 2) := by decide +kernel
theorem dX6_addOpening_61 : decode cX6_addOpening 61 = .ok (.iastore, 1) := by decide +kernel
theorem dX6_addOpening_62 : decode cX6_addOpening 62 = .ok (.aload_n 0, 1) := by decide +kernel
theorem dX6_addOpening_63 : decode cX6_addOpening 63 = .ok (.getfield 35, 3) := by decide +kernel
theorem dX6_addOpening_66 : decode cX6_addOpening 66 = .ok (.aload_n 0, 1) := by decide +kernel
theorem dX6_addOpening_67 : decode cX6_addOpening 67 = .ok (.getfield 50, 3) := by decide +kernel
theorem dX6_addOpening_70 : decode cX6_addOpening 70 = .ok (.iload 6, 2) := by decide +kernel
theorem dX6_addOpening_72 : decode cX6_addOpening 72 = .ok (.iastore, 1) := by decide +kernel
theorem dX6_addOpening_73 : decode cX6_addOpening 73 = .ok (.aload_n 0, 1) := by decide +kernel
theorem dX6_addOpening_74 : decode cX6_addOpening 74 = .ok (.dup, 1) := by decide +kernel
theorem dX6_addOpening_75 : decode cX6_addOpening 75 = .ok (.getfield 50, 3) := by decide +kernel
theorem dX6_addOpening_78 : decode cX6_addOpening 78 = .ok (.iconst 1, 1) := by decide +kernel
theorem dX6_addOpening_79 : decode cX6_addOpening 79 = .ok (.iadd, 1) := by decide +kernel
theorem dX6_addOpening_80 : decode cX6_addOpening 80 = .ok (.putfield 50, 3) := by decide +kernel
theorem dX6_addOpening_83 : decode cX6_addOpening 83 = .ok (.return_, 1) := by decide +kernel
theorem dX6_addStand_0 : decode cX6_addStand 0 = .ok (.aload_n 0, 1) := by decide +kernel
theorem dX6_addStand_1 : decode cX6_addStand 1 = .ok (.getfield 54, 3) := by decide +kernel
theorem dX6_addStand_4 : decode cX6_addStand 4 = .ok (.iconst 4, 1) := by decide +kernel
theorem dX6_addStand_5 : decode cX6_addStand 5 = .ok (.if_icmp .lt 4, 3) := by decide +kernel
theorem dX6_addStand_8 : decode cX6_addStand 8 = .ok (.return_, 1) := by decide +kernel
theorem dX6_addStand_9 : decode cX6_addStand 9 = .ok (.aload_n 0, 1) := by decide +kernel
theorem dX6_addStand_10 : decode cX6_addStand 10 = .ok (.getfield 38, 3) := by decide +kernel
theorem dX6_addStand_13 : decode cX6_addStand 13 = .ok (.aload_n 0, 1) := by decide +kernel
theorem dX6_addStand_14 : decode cX6_addStand 14 = .ok (.getfield 54, 3) := by decide +kernel
theorem dX6_addStand_17 : decode cX6_addStand 17 = .ok (.iload_n 1, 1) := by decide +kernel
theorem dX6_addStand_18 : decode cX6_addStand 18 = .ok (.iastore, 1) := by decide +kernel
theorem dX6_addStand_19 : decode cX6_addStand 19 = .ok (.aload_n 0, 1) := by decide +kernel
theorem dX6_addStand_20 : decode cX6_addStand 20 = .ok (.getfield 41, 3) := by decide +kernel
theorem dX6_addStand_23 : decode cX6_addStand 23 = .ok (.aload_n 0, 1) := by decide +kernel
theorem dX6_addStand_24 : decode cX6_addStand 24 = .ok (.getfield 54, 3) := by decide +kernel
theorem dX6_addStand_27 : decode cX6_addStand 27 = .ok (.iload_n 2, 1) := by decide +kernel
theorem dX6_addStand_28 : decode cX6_addStand 28 = .ok (.iastore, 1) := by decide +kernel
theorem dX6_addStand_29 : decode cX6_addStand 29 = .ok (.aload_n 0, 1) := by decide +kernel
theorem dX6_addStand_30 : decode cX6_addStand 30 = .ok (.getfield 44, 3) := by decide +kernel
theorem dX6_addStand_33 : decode cX6_addStand 33 = .ok (.aload_n 0, 1) := by decide +kernel
theorem dX6_addStand_34 : decode cX6_addStand 34 = .ok (.getfield 54, 3) := by decide +kernel
theorem dX6_addStand_37 : decode cX6_addStand 37 = .ok (.iload_n 3, 1) := by decide +kernel
theorem dX6_addStand_38 : decode cX6_addStand 38 = .ok (.iastore, 1) := by decide +kernel
theorem dX6_addStand_39 : decode cX6_addStand 39 = .ok (.aload_n 0, 1) := by decide +kernel
theorem dX6_addStand_40 : decode cX6_addStand 40 = .ok (.dup, 1) := by decide +kernel
theorem dX6_addStand_41 : decode cX6_addStand 41 = .ok (.getfield 54, 3) := by decide +kernel
theorem dX6_addStand_44 : decode cX6_addStand 44 = .ok (.iconst 1, 1) := by decide +kernel
theorem dX6_addStand_45 : decode cX6_addStand 45 = .ok (.iadd, 1) := by decide +kernel
theorem dX6_addStand_46 : decode cX6_addStand 46 = .ok (.putfield 54, 3) := by decide +kernel
theorem dX6_addStand_49 : decode cX6_addStand 49 = .ok (.return_, 1) := by decide +kernel
theorem dX6_isWindow_0 : decode cX6_isWindow 0 = .ok (.iconst 0, 1) := by decide +kernel
theorem dX6_isWindow_1 : decode cX6_isWindow 1 = .ok (.iload_n 1, 1) := by decide +kernel
theorem dX6_isWindow_2 : decode cX6_isWindow 2 = .ok (.aload_n 0, 1) := by decide +kernel
theorem dX6_isWindow_3 : decode cX6_isWindow 3 = .ok (.getfield 50, 3) := by decide +kernel
theorem dX6_isWindow_6 : decode cX6_isWindow 6 = .ok (.iconst 1, 1) := by decide +kernel
theorem dX6_isWindow_7 : decode cX6_isWindow 7 = .ok (.isub, 1) := by decide +kernel
theorem dX6_isWindow_8 : decode cX6_isWindow 8 = .ok (.invokestatic 57, 3) := by decide +kernel
theorem dX6_isWindow_11 : decode cX6_isWindow 11 = .ok (.ifCond .eq 16, 3) := by decide +kernel
theorem dX6_isWindow_14 : decode cX6_isWindow 14 = .ok (.aload_n 0, 1) := by decide +kernel
theorem dX6_isWindow_15 : decode cX6_isWindow 15 = .ok (.getfield 18, 3) := by decide +kernel
theorem dX6_isWindow_18 : decode cX6_isWindow 18 = .ok (.iload_n 1, 1) := by decide +kernel
theorem dX6_isWindow_19 : decode cX6_isWindow 19 = .ok (.baload, 1) := by decide +kernel
theorem dX6_isWindow_20 : decode cX6_isWindow 20 = .ok (.ifCond .ne 7, 3) := by decide +kernel
theorem dX6_isWindow_23 : decode cX6_isWindow 23 = .ok (.iconst 1, 1) := by decide +kernel
theorem dX6_isWindow_24 : decode cX6_isWindow 24 = .ok (.goto 4, 3) := by decide +kernel
theorem dX6_isWindow_27 : decode cX6_isWindow 27 = .ok (.iconst 0, 1) := by decide +kernel
theorem dX6_isWindow_28 : decode cX6_isWindow 28 = .ok (.ireturn, 1) := by decide +kernel
theorem dX6_lowerOf_0 : decode cX6_lowerOf 0 = .ok (.iconst 0, 1) := by decide +kernel
theorem dX6_lowerOf_1 : decode cX6_lowerOf 1 = .ok (.iload_n 1, 1) := by decide +kernel
theorem dX6_lowerOf_2 : decode cX6_lowerOf 2 = .ok (.aload_n 0, 1) := by decide +kernel
theorem dX6_lowerOf_3 : decode cX6_lowerOf 3 = .ok (.getfield 50, 3) := by decide +kernel
theorem dX6_lowerOf_6 : decode cX6_lowerOf 6 = .ok (.iconst 1, 1) := by decide +kernel
theorem dX6_lowerOf_7 : decode cX6_lowerOf 7 = .ok (.isub, 1) := by decide +kernel
theorem dX6_lowerOf_8 : decode cX6_lowerOf 8 = .ok (.invokestatic 57, 3) := by decide +kernel
theorem dX6_lowerOf_11 : decode cX6_lowerOf 11 = .ok (.ifCond .eq 12, 3) := by decide +kernel
theorem dX6_lowerOf_14 : decode cX6_lowerOf 14 = .ok (.aload_n 0, 1) := by decide +kernel
theorem dX6_lowerOf_15 : decode cX6_lowerOf 15 = .ok (.getfield 32, 3) := by decide +kernel
theorem dX6_lowerOf_18 : decode cX6_lowerOf 18 = .ok (.iload_n 1, 1) := by decide +kernel
theorem dX6_lowerOf_19 : decode cX6_lowerOf 19 = .ok (.iaload, 1) := by decide +kernel
theorem dX6_lowerOf_20 : decode cX6_lowerOf 20 = .ok (.goto 4, 3) := by decide +kernel
theorem dX6_lowerOf_23 : decode cX6_lowerOf 23 = .ok (.iconst 0, 1) := by decide +kernel
theorem dX6_lowerOf_24 : decode cX6_lowerOf 24 = .ok (.ireturn, 1) := by decide +kernel
theorem dX6_upperOf_0 : decode cX6_upperOf 0 = .ok (.iconst 0, 1) := by decide +kernel
theorem dX6_upperOf_1 : decode cX6_upperOf 1 = .ok (.iload_n 1, 1) := by decide +kernel
theorem dX6_upperOf_2 : decode cX6_upperOf 2 = .ok (.aload_n 0, 1) := by decide +kernel
theorem dX6_upperOf_3 : decode cX6_upperOf 3 = .ok (.getfield 50, 3) := by decide +kernel
theorem dX6_upperOf_6 : decode cX6_upperOf 6 = .ok (.iconst 1, 1) := by decide +kernel
theorem dX6_upperOf_7 : decode cX6_upperOf 7 = .ok (.isub, 1) := by decide +kernel
theorem dX6_upperOf_8 : decode cX6_upperOf 8 = .ok (.invokestatic 57, 3) := by decide +kernel
theorem dX6_upperOf_11 : decode cX6_upperOf 11 = .ok (.ifCond .eq 12, 3) := by decide +kernel
theorem dX6_upperOf_14 : decode cX6_upperOf 14 = .ok (.aload_n 0, 1) := by decide +kernel
theorem dX6_upperOf_15 : decode cX6_upperOf 15 = .ok (.getfield 35, 3) := by decide +kernel
theorem dX6_upperOf_18 : decode cX6_upperOf 18 = .ok (.iload_n 1, 1) := by decide +kernel
theorem dX6_upperOf_19 : decode cX6_upperOf 19 = .ok (.iaload, 1) := by decide +kernel
theorem dX6_upperOf_20 : decode cX6_upperOf 20 = .ok (.goto 4, 3) := by decide +kernel
theorem dX6_upperOf_23 : decode cX6_upperOf 23 = .ok (.iconst 0, 1) := by decide +kernel
theorem dX6_upperOf_24 : decode cX6_upperOf 24 = .ok (.ireturn, 1) := by decide +kernel
theorem dX6_lies_0 : decode cX6_lies 0 = .ok (.aload_n 0, 1) := by decide +kernel
theorem dX6_lies_1 : decode cX6_lies 1 = .ok (.getfield 22, 3) := by decide +kernel
theorem dX6_lies_4 : decode cX6_lies 4 = .ok (.iload_n 3, 1) := by decide +kernel
theorem dX6_lies_5 : decode cX6_lies 5 = .ok (.iaload, 1) := by decide +kernel
theorem dX6_lies_6 : decode cX6_lies 6 = .ok (.iload_n 1, 1) := by decide +kernel
theorem dX6_lies_7 : decode cX6_lies 7 = .ok (.if_icmp .ne 26, 3) := by decide +kernel
theorem dX6_lies_10 : decode cX6_lies 10 = .ok (.aload_n 0, 1) := by decide +kernel
theorem dX6_lies_11 : decode cX6_lies 11 = .ok (.getfield 26, 3) := by decide +kernel
theorem dX6_lies_14 : decode cX6_lies 14 = .ok (.iload_n 3, 1) := by decide +kernel
theorem dX6_lies_15 : decode cX6_lies 15 = .ok (.iaload, 1) := by decide +kernel
theorem dX6_lies_16 : decode cX6_lies 16 = .ok (.iload_n 2, 1) := by decide +kernel
theorem dX6_lies_17 : decode cX6_lies 17 = .ok (.aload_n 0, 1) := by decide +kernel
theorem dX6_lies_18 : decode cX6_lies 18 = .ok (.getfield 29, 3) := by decide +kernel
theorem dX6_lies_21 : decode cX6_lies 21 = .ok (.iload_n 3, 1) := by decide +kernel
theorem dX6_lies_22 : decode cX6_lies 22 = .ok (.iaload, 1) := by decide +kernel
theorem dX6_lies_23 : decode cX6_lies 23 = .ok (.invokestatic 57, 3) := by decide +kernel
theorem dX6_lies_26 : decode cX6_lies 26 = .ok (.ifCond .eq 7, 3) := by decide +kernel
theorem dX6_lies_29 : decode cX6_lies 29 = .ok (.iconst 1, 1) := by decide +kernel
theorem dX6_lies_30 : decode cX6_lies 30 = .ok (.goto 4, 3) := by decide +kernel
theorem dX6_lies_33 : decode cX6_lies 33 = .ok (.iconst 0, 1) := by decide +kernel
theorem dX6_lies_34 : decode cX6_lies 34 = .ok (.ireturn, 1) := by decide +kernel
theorem dX6_openingWith_0 : decode cX6_openingWith 0 = .ok (.iconst 0, 1) := by decide +kernel
theorem dX6_openingWith_1 : decode cX6_openingWith 1 = .ok (.istore 4, 2) := by decide +kernel
theorem dX6_openingWith_3 : decode cX6_openingWith 3 = .ok (.iload 4, 2) := by decide +kernel
theorem dX6_openingWith_5 : decode cX6_openingWith 5 = .ok (.aload_n 0, 1) := by decide +kernel
theorem dX6_openingWith_6 : decode cX6_openingWith 6 = .ok (.getfield 50, 3) := by decide +kernel
theorem dX6_openingWith_9 : decode cX6_openingWith 9 = .ok (.if_icmp .ge 34, 3) := by decide +kernel
theorem dX6_openingWith_12 : decode cX6_openingWith 12 = .ok (.aload_n 0, 1) := by decide +kernel
theorem dX6_openingWith_13 : decode cX6_openingWith 13 = .ok (.iload_n 1, 1) := by decide +kernel
theorem dX6_openingWith_14 : decode cX6_openingWith 14 = .ok (.iload_n 2, 1) := by decide +kernel
theorem dX6_openingWith_15 : decode cX6_openingWith 15 = .ok (.iload 4, 2) := by decide +kernel
theorem dX6_openingWith_17 : decode cX6_openingWith 17 = .ok (.invokevirtual 61, 3) := by decide +kernel
theorem dX6_openingWith_20 : decode cX6_openingWith 20 = .ok (.ifCond .eq 17, 3) := by decide +kernel
theorem dX6_openingWith_23 : decode cX6_openingWith 23 = .ok (.aload_n 0, 1) := by decide +kernel
theorem dX6_openingWith_24 : decode cX6_openingWith 24 = .ok (.iload_n 1, 1) := by decide +kernel
theorem dX6_openingWith_25 : decode cX6_openingWith 25 = .ok (.iload_n 3, 1) := by decide +kernel
theorem dX6_openingWith_26 : decode cX6_openingWith 26 = .ok (.iload 4, 2) := by decide +kernel
theorem dX6_openingWith_28 : decode cX6_openingWith 28 = .ok (.invokevirtual 61, 3) := by decide +kernel
theorem dX6_openingWith_31 : decode cX6_openingWith 31 = .ok (.ifCond .eq 6, 3) := by decide +kernel
theorem dX6_openingWith_34 : decode cX6_openingWith 34 = .ok (.iload 4, 2) := by decide +kernel
theorem dX6_openingWith_36 : decode cX6_openingWith 36 = .ok (.ireturn, 1) := by decide +kernel
theorem dX6_openingWith_37 : decode cX6_openingWith 37 = .ok (.iinc 4 1, 3) := by decide +kernel
theorem dX6_openingWith_40 : decode cX6_openingWith 40 = .ok (.goto (-37), 3) := by decide +kernel
theorem dX6_openingWith_43 : decode cX6_openingWith 43 = .ok (.iconst (-1), 1) := by decide +kernel
theorem dX6_openingWith_44 : decode cX6_openingWith 44 = .ok (.ireturn, 1) := by decide +kernel
theorem dX6_opensAt_0 : decode cX6_opensAt 0 = .ok (.iconst 0, 1) := by decide +kernel
theorem dX6_opensAt_1 : decode cX6_opensAt 1 = .ok (.istore 5, 2) := by decide +kernel
theorem dX6_opensAt_3 : decode cX6_opensAt 3 = .ok (.iload 5, 2) := by decide +kernel
theorem dX6_opensAt_5 : decode cX6_opensAt 5 = .ok (.aload_n 0, 1) := by decide +kernel
theorem dX6_opensAt_6 : decode cX6_opensAt 6 = .ok (.getfield 50, 3) := by decide +kernel
theorem dX6_opensAt_9 : decode cX6_opensAt 9 = .ok (.if_icmp .ge 45, 3) := by decide +kernel
theorem dX6_opensAt_12 : decode cX6_opensAt 12 = .ok (.aload_n 0, 1) := by decide +kernel
theorem dX6_opensAt_13 : decode cX6_opensAt 13 = .ok (.iload_n 1, 1) := by decide +kernel
theorem dX6_opensAt_14 : decode cX6_opensAt 14 = .ok (.iload_n 2, 1) := by decide +kernel
theorem dX6_opensAt_15 : decode cX6_opensAt 15 = .ok (.iload 5, 2) := by decide +kernel
theorem dX6_opensAt_17 : decode cX6_opensAt 17 = .ok (.invokevirtual 61, 3) := by decide +kernel
theorem dX6_opensAt_20 : decode cX6_opensAt 20 = .ok (.ifCond .eq 28, 3) := by decide +kernel
theorem dX6_opensAt_23 : decode cX6_opensAt 23 = .ok (.aload_n 0, 1) := by decide +kernel
theorem dX6_opensAt_24 : decode cX6_opensAt 24 = .ok (.getfield 32, 3) := by decide +kernel
theorem dX6_opensAt_27 : decode cX6_opensAt 27 = .ok (.iload 5, 2) := by decide +kernel
theorem dX6_opensAt_29 : decode cX6_opensAt 29 = .ok (.iaload, 1) := by decide +kernel
theorem dX6_opensAt_30 : decode cX6_opensAt 30 = .ok (.iload 4, 2) := by decide +kernel
theorem dX6_opensAt_32 : decode cX6_opensAt 32 = .ok (.if_icmp .ge 16, 3) := by decide +kernel
theorem dX6_opensAt_35 : decode cX6_opensAt 35 = .ok (.aload_n 0, 1) := by decide +kernel
theorem dX6_opensAt_36 : decode cX6_opensAt 36 = .ok (.getfield 35, 3) := by decide +kernel
theorem dX6_opensAt_39 : decode cX6_opensAt 39 = .ok (.iload 5, 2) := by decide +kernel
theorem dX6_opensAt_41 : decode cX6_opensAt 41 = .ok (.iaload, 1) := by decide +kernel
theorem dX6_opensAt_42 : decode cX6_opensAt 42 = .ok (.iload_n 3, 1) := by decide +kernel
theorem dX6_opensAt_43 : decode cX6_opensAt 43 = .ok (.if_icmp .le 5, 3) := by decide +kernel
theorem dX6_opensAt_46 : decode cX6_opensAt 46 = .ok (.iconst 1, 1) := by decide +kernel
theorem dX6_opensAt_47 : decode cX6_opensAt 47 = .ok (.ireturn, 1) := by decide +kernel
theorem dX6_opensAt_48 : decode cX6_opensAt 48 = .ok (.iinc 5 1, 3) := by decide +kernel
theorem dX6_opensAt_51 : decode cX6_opensAt 51 = .ok (.goto (-48), 3) := by decide +kernel
theorem dX6_opensAt_54 : decode cX6_opensAt 54 = .ok (.iconst 0, 1) := by decide +kernel
theorem dX6_opensAt_55 : decode cX6_opensAt 55 = .ok (.ireturn, 1) := by decide +kernel
theorem dX6_doorAtCorner_0 : decode cX6_doorAtCorner 0 = .ok (.aload_n 0, 1) := by decide +kernel
theorem dX6_doorAtCorner_1 : decode cX6_doorAtCorner 1 = .ok (.getfield 12, 3) := by decide +kernel
theorem dX6_doorAtCorner_4 : decode cX6_doorAtCorner 4 = .ok (.iload_n 1, 1) := by decide +kernel
theorem dX6_doorAtCorner_5 : decode cX6_doorAtCorner 5 = .ok (.invokevirtual 64, 3) := by decide +kernel
theorem dX6_doorAtCorner_8 : decode cX6_doorAtCorner 8 = .ok (.istore_n 2, 1) := by decide +kernel
theorem dX6_doorAtCorner_9 : decode cX6_doorAtCorner 9 = .ok (.iconst 0, 1) := by decide +kernel
theorem dX6_doorAtCorner_10 : decode cX6_doorAtCorner 10 = .ok (.istore_n 3, 1) := by decide +kernel
theorem dX6_doorAtCorner_11 : decode cX6_doorAtCorner 11 = .ok (.iload_n 3, 1) := by decide +kernel
theorem dX6_doorAtCorner_12 : decode cX6_doorAtCorner 12 = .ok (.aload_n 0, 1) := by decide +kernel
theorem dX6_doorAtCorner_13 : decode cX6_doorAtCorner 13 = .ok (.getfield 50, 3) := by decide +kernel
theorem dX6_doorAtCorner_16 : decode cX6_doorAtCorner 16 = .ok (.if_icmp .ge 47, 3) := by decide +kernel
theorem dX6_doorAtCorner_19 : decode cX6_doorAtCorner 19 = .ok (.aload_n 0, 1) := by decide +kernel
theorem dX6_doorAtCorner_20 : decode cX6_doorAtCorner 20 = .ok (.getfield 18, 3) := by decide +kernel
theorem dX6_doorAtCorner_23 : decode cX6_doorAtCorner 23 = .ok (.iload_n 3, 1) := by decide +kernel
theorem dX6_doorAtCorner_24 : decode cX6_doorAtCorner 24 = .ok (.baload, 1) := by decide +kernel
theorem dX6_doorAtCorner_25 : decode cX6_doorAtCorner 25 = .ok (.ifCond .eq 32, 3) := by decide +kernel
theorem dX6_doorAtCorner_28 : decode cX6_doorAtCorner 28 = .ok (.aload_n 0, 1) := by decide +kernel
theorem dX6_doorAtCorner_29 : decode cX6_doorAtCorner 29 = .ok (.iload_n 1, 1) := by decide +kernel
theorem dX6_doorAtCorner_30 : decode cX6_doorAtCorner 30 = .ok (.aload_n 0, 1) := by decide +kernel
theorem dX6_doorAtCorner_31 : decode cX6_doorAtCorner 31 = .ok (.getfield 12, 3) := by decide +kernel
theorem dX6_doorAtCorner_34 : decode cX6_doorAtCorner 34 = .ok (.iload_n 1, 1) := by decide +kernel
theorem dX6_doorAtCorner_35 : decode cX6_doorAtCorner 35 = .ok (.invokevirtual 68, 3) := by decide +kernel
theorem dX6_doorAtCorner_38 : decode cX6_doorAtCorner 38 = .ok (.iload_n 3, 1) := by decide +kernel
theorem dX6_doorAtCorner_39 : decode cX6_doorAtCorner 39 = .ok (.invokevirtual 61, 3) := by decide +kernel
theorem dX6_doorAtCorner_42 : decode cX6_doorAtCorner 42 = .ok (.ifCond .ne 13, 3) := by decide +kernel
theorem dX6_doorAtCorner_45 : decode cX6_doorAtCorner 45 = .ok (.aload_n 0, 1) := by decide +kernel
theorem dX6_doorAtCorner_46 : decode cX6_doorAtCorner 46 = .ok (.iload_n 2, 1) := by decide +kernel
theorem dX6_doorAtCorner_47 : decode cX6_doorAtCorner 47 = .ok (.iconst 0, 1) := by decide +kernel
theorem dX6_doorAtCorner_48 : decode cX6_doorAtCorner 48 = .ok (.iload_n 3, 1) := by decide +kernel
theorem dX6_doorAtCorner_49 : decode cX6_doorAtCorner 49 = .ok (.invokevirtual 61, 3) := by decide +kernel
theorem dX6_doorAtCorner_52 : decode cX6_doorAtCorner 52 = .ok (.ifCond .eq 5, 3) := by decide +kernel
theorem dX6_doorAtCorner_55 : decode cX6_doorAtCorner 55 = .ok (.iconst 1, 1) := by decide +kernel
theorem dX6_doorAtCorner_56 : decode cX6_doorAtCorner 56 = .ok (.ireturn, 1) := by decide +kernel
theorem dX6_doorAtCorner_57 : decode cX6_doorAtCorner 57 = .ok (.iinc 3 1, 3) := by decide +kernel
theorem dX6_doorAtCorner_60 : decode cX6_doorAtCorner 60 = .ok (.goto (-49), 3) := by decide +kernel
theorem dX6_doorAtCorner_63 : decode cX6_doorAtCorner 63 = .ok (.iconst 0, 1) := by decide +kernel
theorem dX6_doorAtCorner_64 : decode cX6_doorAtCorner 64 = .ok (.ireturn, 1) := by decide +kernel
theorem dX6_doorsAbove_0 : decode cX6_doorsAbove 0 = .ok (.iconst 0, 1) := by decide +kernel
theorem dX6_doorsAbove_1 : decode cX6_doorsAbove 1 = .ok (.istore_n 2, 1) := by decide +kernel
theorem dX6_doorsAbove_2 : decode cX6_doorsAbove 2 = .ok (.iconst 0, 1) := by decide +kernel
theorem dX6_doorsAbove_3 : decode cX6_doorsAbove 3 = .ok (.istore_n 3, 1) := by decide +kernel
theorem dX6_doorsAbove_4 : decode cX6_doorsAbove 4 = .ok (.iload_n 3, 1) := by decide +kernel
theorem dX6_doorsAbove_5 : decode cX6_doorsAbove 5 = .ok (.aload_n 0, 1) := by decide +kernel
theorem dX6_doorsAbove_6 : decode cX6_doorsAbove 6 = .ok (.getfield 50, 3) := by decide +kernel
theorem dX6_doorsAbove_9 : decode cX6_doorsAbove 9 = .ok (.if_icmp .ge 44, 3) := by decide +kernel
theorem dX6_doorsAbove_12 : decode cX6_doorsAbove 12 = .ok (.aload_n 0, 1) := by decide +kernel
theorem dX6_doorsAbove_13 : decode cX6_doorsAbove 13 = .ok (.getfield 18, 3) := by decide +kernel
theorem dX6_doorsAbove_16 : decode cX6_doorsAbove 16 = .ok (.iload_n 3, 1) := by decide +kernel
theorem dX6_doorsAbove_17 : decode cX6_doorsAbove 17 = .ok (.baload, 1) := by decide +kernel
theorem dX6_doorsAbove_18 : decode cX6_doorsAbove 18 = .ok (.ifCond .eq 29, 3) := by decide +kernel
theorem dX6_doorsAbove_21 : decode cX6_doorsAbove 21 = .ok (.aload_n 0, 1) := by decide +kernel
theorem dX6_doorsAbove_22 : decode cX6_doorsAbove 22 = .ok (.getfield 35, 3) := by decide +kernel
theorem dX6_doorsAbove_25 : decode cX6_doorsAbove 25 = .ok (.iload_n 3, 1) := by decide +kernel
theorem dX6_doorsAbove_26 : decode cX6_doorsAbove 26 = .ok (.iaload, 1) := by decide +kernel
theorem dX6_doorsAbove_27 : decode cX6_doorsAbove 27 = .ok (.iload_n 1, 1) := by decide +kernel
theorem dX6_doorsAbove_28 : decode cX6_doorsAbove 28 = .ok (.if_icmp .le 19, 3) := by decide +kernel
theorem dX6_doorsAbove_31 : decode cX6_doorsAbove 31 = .ok (.iload_n 2, 1) := by decide +kernel
