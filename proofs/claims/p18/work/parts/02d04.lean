theorem dX5_take_1 : decode cX5_take 1 = .ok (.getfield 13, 3) := by decide +kernel
theorem dX5_take_4 : decode cX5_take 4 = .ok (.iload_n 1, 1) := by decide +kernel
theorem dX5_take_5 : decode cX5_take 5 = .ok (.iload_n 2, 1) := by decide +kernel
theorem dX5_take_6 : decode cX5_take 6 = .ok (.iload_n 3, 1) := by decide +kernel
theorem dX5_take_7 : decode cX5_take 7 = .ok (.iadd, 1) := by decide +kernel
theorem dX5_take_8 : decode cX5_take 8 = .ok (.iastore, 1) := by decide +kernel
theorem dX5_take_9 : decode cX5_take 9 = .ok (.aload_n 0, 1) := by decide +kernel
theorem dX5_take_10 : decode cX5_take 10 = .ok (.iload_n 1, 1) := by decide +kernel
theorem dX5_take_11 : decode cX5_take 11 = .ok (.putfield 47, 3) := by decide +kernel
theorem dX5_take_14 : decode cX5_take 14 = .ok (.aload_n 0, 1) := by decide +kernel
theorem dX5_take_15 : decode cX5_take 15 = .ok (.iload_n 2, 1) := by decide +kernel
theorem dX5_take_16 : decode cX5_take 16 = .ok (.putfield 50, 3) := by decide +kernel
theorem dX5_take_19 : decode cX5_take 19 = .ok (.return_, 1) := by decide +kernel
theorem dX5_fewestFor_0 : decode cX5_fewestFor 0 = .ok (.aload_n 1, 1) := by decide +kernel
theorem dX5_fewestFor_1 : decode cX5_fewestFor 1 = .ok (.ifnull 12, 3) := by decide +kernel
theorem dX5_fewestFor_4 : decode cX5_fewestFor 4 = .ok (.aload_n 1, 1) := by decide +kernel
theorem dX5_fewestFor_5 : decode cX5_fewestFor 5 = .ok (.getfield 53, 3) := by decide +kernel
theorem dX5_fewestFor_8 : decode cX5_fewestFor 8 = .ok (.bipush 12, 2) := by decide +kernel
theorem dX5_fewestFor_10 : decode cX5_fewestFor 10 = .ok (.if_icmp .le 5, 3) := by decide +kernel
theorem dX5_fewestFor_13 : decode cX5_fewestFor 13 = .ok (.iconst (-1), 1) := by decide +kernel
theorem dX5_fewestFor_14 : decode cX5_fewestFor 14 = .ok (.ireturn, 1) := by decide +kernel
theorem dX5_fewestFor_15 : decode cX5_fewestFor 15 = .ok (.iconst 0, 1) := by decide +kernel
theorem dX5_fewestFor_16 : decode cX5_fewestFor 16 = .ok (.istore_n 2, 1) := by decide +kernel
theorem dX5_fewestFor_17 : decode cX5_fewestFor 17 = .ok (.iload_n 2, 1) := by decide +kernel
theorem dX5_fewestFor_18 : decode cX5_fewestFor 18 = .ok (.aload_n 1, 1) := by decide +kernel
theorem dX5_fewestFor_19 : decode cX5_fewestFor 19 = .ok (.getfield 53, 3) := by decide +kernel
theorem dX5_fewestFor_22 : decode cX5_fewestFor 22 = .ok (.if_icmp .ge 33, 3) := by decide +kernel
theorem dX5_fewestFor_25 : decode cX5_fewestFor 25 = .ok (.aload_n 0, 1) := by decide +kernel
theorem dX5_fewestFor_26 : decode cX5_fewestFor 26 = .ok (.getfield 20, 3) := by decide +kernel
theorem dX5_fewestFor_29 : decode cX5_fewestFor 29 = .ok (.iload_n 2, 1) := by decide +kernel
theorem dX5_fewestFor_30 : decode cX5_fewestFor 30 = .ok (.aload_n 1, 1) := by decide +kernel
theorem dX5_fewestFor_31 : decode cX5_fewestFor 31 = .ok (.getfield 56, 3) := by decide +kernel
theorem dX5_fewestFor_34 : decode cX5_fewestFor 34 = .ok (.iload_n 2, 1) := by decide +kernel
theorem dX5_fewestFor_35 : decode cX5_fewestFor 35 = .ok (.iaload, 1) := by decide +kernel
theorem dX5_fewestFor_36 : decode cX5_fewestFor 36 = .ok (.iastore, 1) := by decide +kernel
theorem dX5_fewestFor_37 : decode cX5_fewestFor 37 = .ok (.aload_n 0, 1) := by decide +kernel
theorem dX5_fewestFor_38 : decode cX5_fewestFor 38 = .ok (.getfield 23, 3) := by decide +kernel
theorem dX5_fewestFor_41 : decode cX5_fewestFor 41 = .ok (.iload_n 2, 1) := by decide +kernel
theorem dX5_fewestFor_42 : decode cX5_fewestFor 42 = .ok (.aload_n 1, 1) := by decide +kernel
theorem dX5_fewestFor_43 : decode cX5_fewestFor 43 = .ok (.getfield 57, 3) := by decide +kernel
theorem dX5_fewestFor_46 : decode cX5_fewestFor 46 = .ok (.iload_n 2, 1) := by decide +kernel
theorem dX5_fewestFor_47 : decode cX5_fewestFor 47 = .ok (.iaload, 1) := by decide +kernel
theorem dX5_fewestFor_48 : decode cX5_fewestFor 48 = .ok (.iastore, 1) := by decide +kernel
theorem dX5_fewestFor_49 : decode cX5_fewestFor 49 = .ok (.iinc 2 1, 3) := by decide +kernel
theorem dX5_fewestFor_52 : decode cX5_fewestFor 52 = .ok (.goto (-35), 3) := by decide +kernel
theorem dX5_fewestFor_55 : decode cX5_fewestFor 55 = .ok (.iconst 1, 1) := by decide +kernel
theorem dX5_fewestFor_56 : decode cX5_fewestFor 56 = .ok (.aload_n 1, 1) := by decide +kernel
theorem dX5_fewestFor_57 : decode cX5_fewestFor 57 = .ok (.getfield 53, 3) := by decide +kernel
theorem dX5_fewestFor_60 : decode cX5_fewestFor 60 = .ok (.ishl, 1) := by decide +kernel
theorem dX5_fewestFor_61 : decode cX5_fewestFor 61 = .ok (.istore_n 2, 1) := by decide +kernel
theorem dX5_fewestFor_62 : decode cX5_fewestFor 62 = .ok (.aload_n 0, 1) := by decide +kernel
theorem dX5_fewestFor_63 : decode cX5_fewestFor 63 = .ok (.getfield 17, 3) := by decide +kernel
theorem dX5_fewestFor_66 : decode cX5_fewestFor 66 = .ok (.iconst 0, 1) := by decide +kernel
theorem dX5_fewestFor_67 : decode cX5_fewestFor 67 = .ok (.aload_n 0, 1) := by decide +kernel
theorem dX5_fewestFor_68 : decode cX5_fewestFor 68 = .ok (.getfield 26, 3) := by decide +kernel
theorem dX5_fewestFor_71 : decode cX5_fewestFor 71 = .ok (.getfield 40, 3) := by decide +kernel
theorem dX5_fewestFor_74 : decode cX5_fewestFor 74 = .ok (.iastore, 1) := by decide +kernel
theorem dX5_fewestFor_75 : decode cX5_fewestFor 75 = .ok (.iconst 1, 1) := by decide +kernel
theorem dX5_fewestFor_76 : decode cX5_fewestFor 76 = .ok (.istore_n 3, 1) := by decide +kernel
theorem dX5_fewestFor_77 : decode cX5_fewestFor 77 = .ok (.iload_n 3, 1) := by decide +kernel
theorem dX5_fewestFor_78 : decode cX5_fewestFor 78 = .ok (.iload_n 2, 1) := by decide +kernel
theorem dX5_fewestFor_79 : decode cX5_fewestFor 79 = .ok (.if_icmp .ge 24, 3) := by decide +kernel
theorem dX5_fewestFor_82 : decode cX5_fewestFor 82 = .ok (.aload_n 0, 1) := by decide +kernel
theorem dX5_fewestFor_83 : decode cX5_fewestFor 83 = .ok (.getfield 17, 3) := by decide +kernel
theorem dX5_fewestFor_86 : decode cX5_fewestFor 86 = .ok (.iload_n 3, 1) := by decide +kernel
theorem dX5_fewestFor_87 : decode cX5_fewestFor 87 = .ok (.aload_n 0, 1) := by decide +kernel
theorem dX5_fewestFor_88 : decode cX5_fewestFor 88 = .ok (.iload_n 3, 1) := by decide +kernel
theorem dX5_fewestFor_89 : decode cX5_fewestFor 89 = .ok (.aload_n 1, 1) := by decide +kernel
theorem dX5_fewestFor_90 : decode cX5_fewestFor 90 = .ok (.getfield 53, 3) := by decide +kernel
theorem dX5_fewestFor_93 : decode cX5_fewestFor 93 = .ok (.invokevirtual 58, 3) := by decide +kernel
theorem dX5_fewestFor_96 : decode cX5_fewestFor 96 = .ok (.iastore, 1) := by decide +kernel
theorem dX5_fewestFor_97 : decode cX5_fewestFor 97 = .ok (.iinc 3 1, 3) := by decide +kernel
theorem dX5_fewestFor_100 : decode cX5_fewestFor 100 = .ok (.goto (-23), 3) := by decide +kernel
theorem dX5_fewestFor_103 : decode cX5_fewestFor 103 = .ok (.aload_n 0, 1) := by decide +kernel
theorem dX5_fewestFor_104 : decode cX5_fewestFor 104 = .ok (.getfield 17, 3) := by decide +kernel
theorem dX5_fewestFor_107 : decode cX5_fewestFor 107 = .ok (.iload_n 2, 1) := by decide +kernel
theorem dX5_fewestFor_108 : decode cX5_fewestFor 108 = .ok (.iconst 1, 1) := by decide +kernel
theorem dX5_fewestFor_109 : decode cX5_fewestFor 109 = .ok (.isub, 1) := by decide +kernel
theorem dX5_fewestFor_110 : decode cX5_fewestFor 110 = .ok (.iaload, 1) := by decide +kernel
theorem dX5_fewestFor_111 : decode cX5_fewestFor 111 = .ok (.sipush 4096, 3) := by decide +kernel
theorem dX5_fewestFor_114 : decode cX5_fewestFor 114 = .ok (.idiv, 1) := by decide +kernel
theorem dX5_fewestFor_115 : decode cX5_fewestFor 115 = .ok (.ireturn, 1) := by decide +kernel
theorem dX5_leastFor_0 : decode cX5_leastFor 0 = .ok (.iload_n 2, 1) := by decide +kernel
theorem dX5_leastFor_1 : decode cX5_leastFor 1 = .ok (.iconst 1, 1) := by decide +kernel
theorem dX5_leastFor_2 : decode cX5_leastFor 2 = .ok (.iadd, 1) := by decide +kernel
theorem dX5_leastFor_3 : decode cX5_leastFor 3 = .ok (.sipush 4096, 3) := by decide +kernel
theorem dX5_leastFor_6 : decode cX5_leastFor 6 = .ok (.imul, 1) := by decide +kernel
theorem dX5_leastFor_7 : decode cX5_leastFor 7 = .ok (.istore_n 3, 1) := by decide +kernel
theorem dX5_leastFor_8 : decode cX5_leastFor 8 = .ok (.iconst 0, 1) := by decide +kernel
theorem dX5_leastFor_9 : decode cX5_leastFor 9 = .ok (.istore 4, 2) := by decide +kernel
theorem dX5_leastFor_11 : decode cX5_leastFor 11 = .ok (.iload 4, 2) := by decide +kernel
theorem dX5_leastFor_13 : decode cX5_leastFor 13 = .ok (.iload_n 2, 1) := by decide +kernel
theorem dX5_leastFor_14 : decode cX5_leastFor 14 = .ok (.if_icmp .ge 43, 3) := by decide +kernel
theorem dX5_leastFor_17 : decode cX5_leastFor 17 = .ok (.iload_n 1, 1) := by decide +kernel
theorem dX5_leastFor_18 : decode cX5_leastFor 18 = .ok (.iload 4, 2) := by decide +kernel
theorem dX5_leastFor_20 : decode cX5_leastFor 20 = .ok (.ishr, 1) := by decide +kernel
theorem dX5_leastFor_21 : decode cX5_leastFor 21 = .ok (.iconst 1, 1) := by decide +kernel
theorem dX5_leastFor_22 : decode cX5_leastFor 22 = .ok (.iand, 1) := by decide +kernel
theorem dX5_leastFor_23 : decode cX5_leastFor 23 = .ok (.iconst 1, 1) := by decide +kernel
theorem dX5_leastFor_24 : decode cX5_leastFor 24 = .ok (.if_icmp .ne 27, 3) := by decide +kernel
theorem dX5_leastFor_27 : decode cX5_leastFor 27 = .ok (.iload_n 3, 1) := by decide +kernel
theorem dX5_leastFor_28 : decode cX5_leastFor 28 = .ok (.aload_n 0, 1) := by decide +kernel
theorem dX5_leastFor_29 : decode cX5_leastFor 29 = .ok (.aload_n 0, 1) := by decide +kernel
theorem dX5_leastFor_30 : decode cX5_leastFor 30 = .ok (.getfield 17, 3) := by decide +kernel
theorem dX5_leastFor_33 : decode cX5_leastFor 33 = .ok (.iload_n 1, 1) := by decide +kernel
theorem dX5_leastFor_34 : decode cX5_leastFor 34 = .ok (.iconst 1, 1) := by decide +kernel
theorem dX5_leastFor_35 : decode cX5_leastFor 35 = .ok (.iload 4, 2) := by decide +kernel
theorem dX5_leastFor_37 : decode cX5_leastFor 37 = .ok (.ishl, 1) := by decide +kernel
theorem dX5_leastFor_38 : decode cX5_leastFor 38 = .ok (.iconst (-1), 1) := by decide +kernel
theorem dX5_leastFor_39 : decode cX5_leastFor 39 = .ok (.ixor, 1) := by decide +kernel
theorem dX5_leastFor_40 : decode cX5_leastFor 40 = .ok (.iand, 1) := by decide +kernel
theorem dX5_leastFor_41 : decode cX5_leastFor 41 = .ok (.iaload, 1) := by decide +kernel
theorem dX5_leastFor_42 : decode cX5_leastFor 42 = .ok (.iload 4, 2) := by decide +kernel
theorem dX5_leastFor_44 : decode cX5_leastFor 44 = .ok (.invokevirtual 61, 3) := by decide +kernel
theorem dX5_leastFor_47 : decode cX5_leastFor 47 = .ok (.invokestatic 64, 3) := by decide +kernel
theorem dX5_leastFor_50 : decode cX5_leastFor 50 = .ok (.istore_n 3, 1) := by decide +kernel
theorem dX5_leastFor_51 : decode cX5_leastFor 51 = .ok (.iinc 4 1, 3) := by decide +kernel
theorem dX5_leastFor_54 : decode cX5_leastFor 54 = .ok (.goto (-43), 3) := by decide +kernel
theorem dX5_leastFor_57 : decode cX5_leastFor 57 = .ok (.iload_n 3, 1) := by decide +kernel
theorem dX5_leastFor_58 : decode cX5_leastFor 58 = .ok (.ireturn, 1) := by decide +kernel
theorem dX5_behind_0 : decode cX5_behind 0 = .ok (.iload_n 1, 1) := by decide +kernel
theorem dX5_behind_1 : decode cX5_behind 1 = .ok (.sipush 4096, 3) := by decide +kernel
theorem dX5_behind_4 : decode cX5_behind 4 = .ok (.idiv, 1) := by decide +kernel
theorem dX5_behind_5 : decode cX5_behind 5 = .ok (.istore_n 3, 1) := by decide +kernel
theorem dX5_behind_6 : decode cX5_behind 6 = .ok (.aload_n 0, 1) := by decide +kernel
theorem dX5_behind_7 : decode cX5_behind 7 = .ok (.getfield 26, 3) := by decide +kernel
theorem dX5_behind_10 : decode cX5_behind 10 = .ok (.iload_n 1, 1) := by decide +kernel
theorem dX5_behind_11 : decode cX5_behind 11 = .ok (.sipush 4096, 3) := by decide +kernel
theorem dX5_behind_14 : decode cX5_behind 14 = .ok (.irem, 1) := by decide +kernel
theorem dX5_behind_15 : decode cX5_behind 15 = .ok (.aload_n 0, 1) := by decide +kernel
theorem dX5_behind_16 : decode cX5_behind 16 = .ok (.getfield 23, 3) := by decide +kernel
theorem dX5_behind_19 : decode cX5_behind 19 = .ok (.iload_n 2, 1) := by decide +kernel
theorem dX5_behind_20 : decode cX5_behind 20 = .ok (.iaload, 1) := by decide +kernel
theorem dX5_behind_21 : decode cX5_behind 21 = .ok (.invokevirtual 34, 3) := by decide +kernel
theorem dX5_behind_24 : decode cX5_behind 24 = .ok (.istore 4, 2) := by decide +kernel
theorem dX5_behind_26 : decode cX5_behind 26 = .ok (.iload 4, 2) := by decide +kernel
theorem dX5_behind_28 : decode cX5_behind 28 = .ok (.aload_n 0, 1) := by decide +kernel
theorem dX5_behind_29 : decode cX5_behind 29 = .ok (.getfield 20, 3) := by decide +kernel
theorem dX5_behind_32 : decode cX5_behind 32 = .ok (.iload_n 2, 1) := by decide +kernel
theorem dX5_behind_33 : decode cX5_behind 33 = .ok (.iaload, 1) := by decide +kernel
theorem dX5_behind_34 : decode cX5_behind 34 = .ok (.iadd, 1) := by decide +kernel
theorem dX5_behind_35 : decode cX5_behind 35 = .ok (.aload_n 0, 1) := by decide +kernel
theorem dX5_behind_36 : decode cX5_behind 36 = .ok (.getfield 26, 3) := by decide +kernel
theorem dX5_behind_39 : decode cX5_behind 39 = .ok (.getfield 40, 3) := by decide +kernel
theorem dX5_behind_42 : decode cX5_behind 42 = .ok (.if_icmp .gt 19, 3) := by decide +kernel
theorem dX5_behind_45 : decode cX5_behind 45 = .ok (.iload_n 3, 1) := by decide +kernel
theorem dX5_behind_46 : decode cX5_behind 46 = .ok (.sipush 4096, 3) := by decide +kernel
theorem dX5_behind_49 : decode cX5_behind 49 = .ok (.imul, 1) := by decide +kernel
theorem dX5_behind_50 : decode cX5_behind 50 = .ok (.iload 4, 2) := by decide +kernel
theorem dX5_behind_52 : decode cX5_behind 52 = .ok (.iadd, 1) := by decide +kernel
theorem dX5_behind_53 : decode cX5_behind 53 = .ok (.aload_n 0, 1) := by decide +kernel
theorem dX5_behind_54 : decode cX5_behind 54 = .ok (.getfield 20, 3) := by decide +kernel
theorem dX5_behind_57 : decode cX5_behind 57 = .ok (.iload_n 2, 1) := by decide +kernel
theorem dX5_behind_58 : decode cX5_behind 58 = .ok (.iaload, 1) := by decide +kernel
theorem dX5_behind_59 : decode cX5_behind 59 = .ok (.iadd, 1) := by decide +kernel
theorem dX5_behind_60 : decode cX5_behind 60 = .ok (.ireturn, 1) := by decide +kernel
theorem dX5_behind_61 : decode cX5_behind 61 = .ok (.iload_n 3, 1) := by decide +kernel
theorem dX5_behind_62 : decode cX5_behind 62 = .ok (.iconst 1, 1) := by decide +kernel
theorem dX5_behind_63 : decode cX5_behind 63 = .ok (.iadd, 1) := by decide +kernel
theorem dX5_behind_64 : decode cX5_behind 64 = .ok (.sipush 4096, 3) := by decide +kernel
theorem dX5_behind_67 : decode cX5_behind 67 = .ok (.imul, 1) := by decide +kernel
theorem dX5_behind_68 : decode cX5_behind 68 = .ok (.aload_n 0, 1) := by decide +kernel
theorem dX5_behind_69 : decode cX5_behind 69 = .ok (.getfield 23, 3) := by decide +kernel
theorem dX5_behind_72 : decode cX5_behind 72 = .ok (.iload_n 2, 1) := by decide +kernel
theorem dX5_behind_73 : decode cX5_behind 73 = .ok (.iaload, 1) := by decide +kernel
theorem dX5_behind_74 : decode cX5_behind 74 = .ok (.iadd, 1) := by decide +kernel
theorem dX5_behind_75 : decode cX5_behind 75 = .ok (.aload_n 0, 1) := by decide +kernel
theorem dX5_behind_76 : decode cX5_behind 76 = .ok (.getfield 20, 3) := by decide +kernel
theorem dX5_behind_79 : decode cX5_behind 79 = .ok (.iload_n 2, 1) := by decide +kernel
theorem dX5_behind_80 : decode cX5_behind 80 = .ok (.iaload, 1) := by decide +kernel
theorem dX5_behind_81 : decode cX5_behind 81 = .ok (.iadd, 1) := by decide +kernel
theorem dX5_behind_82 : decode cX5_behind 82 = .ok (.ireturn, 1) := by decide +kernel
theorem dX6_clear_0 : decode cX6_clear 0 = .ok (.aload_n 0, 1) := by decide +kernel
theorem dX6_clear_1 : decode cX6_clear 1 = .ok (.getfield 12, 3) := by decide +kernel
theorem dX6_clear_4 : decode cX6_clear 4 = .ok (.invokevirtual 47, 3) := by decide +kernel
theorem dX6_clear_7 : decode cX6_clear 7 = .ok (.aload_n 0, 1) := by decide +kernel
theorem dX6_clear_8 : decode cX6_clear 8 = .ok (.iconst 0, 1) := by decide +kernel
theorem dX6_clear_9 : decode cX6_clear 9 = .ok (.putfield 50, 3) := by decide +kernel
theorem dX6_clear_12 : decode cX6_clear 12 = .ok (.aload_n 0, 1) := by decide +kernel
theorem dX6_clear_13 : decode cX6_clear 13 = .ok (.iconst 0, 1) := by decide +kernel
theorem dX6_clear_14 : decode cX6_clear 14 = .ok (.putfield 54, 3) := by decide +kernel
theorem dX6_clear_17 : decode cX6_clear 17 = .ok (.return_, 1) := by decide +kernel
theorem dX6_addOpening_0 : decode cX6_addOpening 0 = .ok (.aload_n 0, 1) := by decide +kernel
theorem dX6_addOpening_1 : decode cX6_addOpening 1 = .ok (.getfield 50, 3) := by decide +kernel
theorem dX6_addOpening_4 : decode cX6_addOpening 4 = .ok (.bipush 8, 2) := by decide +kernel
theorem dX6_addOpening_6 : decode cX6_addOpening 6 = .ok (.if_icmp .lt 4, 3) := by decide +kernel
theorem dX6_addOpening_10 : decode cX6_addOpening 10 = .ok (.aload_n 0, 1) := by decide +kernel
theorem dX6_addOpening_11 : decode cX6_addOpening 11 = .ok (.getfield 18, 3) := by decide +kernel
theorem dX6_addOpening_14 : decode cX6_addOpening 14 = .ok (.aload_n 0, 1) := by decide +kernel
theorem dX6_addOpening_15 : decode cX6_addOpening 15 = .ok (.getfield 50, 3) := by decide +kernel
theorem dX6_addOpening_18 : decode cX6_addOpening 18 = .ok (.iload_n 1, 1) := by decide +kernel
theorem dX6_addOpening_19 : decode cX6_addOpening 19 = .ok (.bastore, 1) := by decide +kernel
theorem dX6_addOpening_20 : decode cX6_addOpening 20 = .ok (.aload_n 0, 1) := by decide +kernel
theorem dX6_addOpening_21 : decode cX6_addOpening 21 = .ok (.getfield 22, 3) := by decide +kernel
theorem dX6_addOpening_24 : decode cX6_addOpening 24 = .ok (.aload_n 0, 1) := by decide +kernel
theorem dX6_addOpening_25 : decode cX6_addOpening 25 = .ok (.getfield 50, 3) := by decide +kernel
theorem dX6_addOpening_28 : decode cX6_addOpening 28 = .ok (.iload_n 2, 1) := by decide +kernel
theorem dX6_addOpening_29 : decode cX6_addOpening 29 = .ok (.iastore, 1) := by decide +kernel
theorem dX6_addOpening_30 : decode cX6_addOpening 30 = .ok (.aload_n 0, 1) := by decide +kernel
theorem dX6_addOpening_31 : decode cX6_addOpening 31 = .ok (.getfield 26, 3) := by decide +kernel
theorem dX6_addOpening_34 : decode cX6_addOpening 34 = .ok (.aload_n 0, 1) := by decide +kernel
theorem dX6_addOpening_35 : decode cX6_addOpening 35 = .ok (.getfield 50, 3) := by decide +kernel
theorem dX6_addOpening_38 : decode cX6_addOpening 38 = .ok (.iload_n 3, 1) := by decide +kernel
theorem dX6_addOpening_39 : decode cX6_addOpening 39 = .ok (.iastore, 1) := by decide +kernel
theorem dX6_addOpening_40 : decode cX6_addOpening 40 = .ok (.aload_n 0, 1) := by decide +kernel
theorem dX6_addOpening_41 : decode cX6_addOpening 41 = .ok (.getfield 29, 3) := by decide +kernel
theorem dX6_addOpening_44 : decode cX6_addOpening 44 = .ok (.aload_n 0, 1) := by decide +kernel
theorem dX6_addOpening_45 : decode cX6_addOpening 45 = .ok (.getfield 50, 3) := by decide +kernel
theorem dX6_addOpening_48 : decode cX6_addOpening 48 = .ok (.iload 4, 2) := by decide +kernel
theorem dX6_addOpening_50 : decode cX6_addOpening 50 = .ok (.iastore, 1) := by decide +kernel
theorem dX6_addOpening_51 : decode cX6_addOpening 51 = .ok (.aload_n 0, 1) := by decide +kernel
theorem dX6_addOpening_52 : decode cX6_addOpening 52 = .ok (.getfield 32, 3) := by decide +kernel
theorem dX6_addOpening_55 : decode cX6_addOpening 55 = .ok (.aload_n 0, 1) := by decide +kernel
theorem dX6_addOpening_56 : decode cX6_addOpening 56 = .ok (.getfield 50, 3) := by decide +kernel
theorem dX6_addOpening_59 : decode cX6_addOpening 59 = .ok (.iload 5, 2) := by decide +kernel
theorem dX6_addOpening_61 : decode cX6_addOpening 61 = .ok (.iastore, 1) := by decide +kernel
theorem dX6_addOpening_62 : decode cX6_addOpening 62 = .ok (.aload_n 0, 1) := by decide +kernel
theorem dX6_addOpening_63 : decode cX6_addOpening 63 = .ok (.getfield 35, 3) := by decide +kernel
theorem dX6_addOpening_66 : decode cX6_addOpening 66 = .ok (.aload_n 0, 1) := by decide +kernel
theorem dX6_addOpening_67 : decode cX6_addOpening 67 = .ok (.getfield 50, 3) := by decide +kernel
theorem dX6_addOpening_70 : decode cX6_addOpening 70 = .ok (.iload 6, 2) := by decide +kernel
theorem dX6_addOpening_72 : decode cX6_addOpening 72 = .ok (.iastore, 1) := by decide +kernel
theorem dX6_addOpening_73 : decode cX6_addOpening 73 = .ok (.aload_n 0, 1) := by decide +kernel
theorem dX6_addOpening_74 : decode cX6_addOpening 74 = .ok (.dup, 1) := by decide +kernel
theorem dX6_addOpening_75 : decode cX6_addOpening 75 = .ok (.getfield 50, 3) := by decide +kernel
theorem dX6_addOpening_78 : decode cX6_addOpening 78 = .ok (.iconst 1, 1) := by decide +kernel
theorem dX6_addOpening_79 : decode cX6_addOpening 79 = .ok (.iadd, 1) := by decide +kernel
theorem dX6_addOpening_80 : decode cX6_addOpening 80 = .ok (.putfield 50, 3) := by decide +kernel
theorem dX6_addOpening_83 : decode cX6_addOpening 83 = .ok (.return_, 1) := by decide +kernel
theorem dX6_addStand_0 : decode cX6_addStand 0 = .ok (.aload_n 0, 1) := by decide +kernel
theorem dX6_addStand_1 : decode cX6_addStand 1 = .ok (.getfield 54, 3) := by decide +kernel
theorem dX6_addStand_4 : decode cX6_addStand 4 = .ok (.iconst 4, 1) := by decide +kernel
theorem dX6_addStand_5 : decode cX6_addStand 5 = .ok (.if_icmp .lt 4, 3) := by decide +kernel
theorem dX6_addStand_9 : decode cX6_addStand 9 = .ok (.aload_n 0, 1) := by decide +kernel
theorem dX6_addStand_10 : decode cX6_addStand 10 = .ok (.getfield 38, 3) := by decide +kernel
theorem dX6_addStand_13 : decode cX6_addStand 13 = .ok (.aload_n 0, 1) := by decide +kernel
theorem dX6_addStand_14 : decode cX6_addStand 14 = .ok (.getfield 54, 3) := by decide +kernel
theorem dX6_addStand_17 : decode cX6_addStand 17 = .ok (.iload_n 1, 1) := by decide +kernel
theorem dX6_addStand_18 : decode cX6_addStand 18 = .ok (.iastore, 1) := by decide +kernel
theorem dX6_addStand_19 : decode cX6_addStand 19 = .ok (.aload_n 0, 1) := by decide +kernel
theorem dX6_addStand_20 : decode cX6_addStand 20 = .ok (.getfield 41, 3) := by decide +kernel
theorem dX6_addStand_23 : decode cX6_addStand 23 = .ok (.aload_n 0, 1) := by decide +kernel
theorem dX6_addStand_24 : decode cX6_addStand 24 = .ok (.getfield 54, 3) := by decide +kernel
theorem dX6_addStand_27 : decode cX6_addStand 27 = .ok (.iload_n 2, 1) := by decide +kernel
theorem dX6_addStand_28 : decode cX6_addStand 28 = .ok (.iastore, 1) := by decide +kernel
theorem dX6_addStand_29 : decode cX6_addStand 29 = .ok (.aload_n 0, 1) := by decide +kernel
theorem dX6_addStand_30 : decode cX6_addStand 30 = .ok (.getfield 44, 3) := by decide +kernel
theorem dX6_addStand_33 : decode cX6_addStand 33 = .ok (.aload_n 0, 1) := by decide +kernel
theorem dX6_addStand_34 : decode cX6_addStand 34 = .ok (.getfield 54, 3) := by decide +kernel
theorem dX6_addStand_37 : decode cX6_addStand 37 = .ok (.iload_n 3, 1) := by decide +kernel
theorem dX6_addStand_38 : decode cX6_addStand 38 = .ok (.iastore, 1) := by decide +kernel
theorem dX6_addStand_39 : decode cX6_addStand 39 = .ok (.aload_n 0, 1) := by decide +kernel
theorem dX6_addStand_40 : decode cX6_addStand 40 = .ok (.dup, 1) := by decide +kernel
theorem dX6_addStand_41 : decode cX6_addStand 41 = .ok (.getfield 54, 3) := by decide +kernel
theorem dX6_addStand_44 : decode cX6_addStand 44 = .ok (.iconst 1, 1) := by decide +kernel
theorem dX6_addStand_45 : decode cX6_addStand 45 = .ok (.iadd, 1) := by decide +kernel
theorem dX6_addStand_46 : decode cX6_addStand 46 = .ok (.putfield 54, 3) := by decide +kernel
theorem dX6_addStand_49 : decode cX6_addStand 49 = .ok (.return_, 1) := by decide +kernel
theorem dX6_isWindow_0 : decode cX6_isWindow 0 = .ok (.iconst 0, 1) := by decide +kernel
theorem dX6_isWindow_1 : decode cX6_isWindow 1 = .ok (.iload_n 1, 1) := by decide +kernel
theorem dX6_isWindow_2 : decode cX6_isWindow 2 = .ok (.aload_n 0, 1) := by decide +kernel
theorem dX6_isWindow_3 : decode cX6_isWindow 3 = .ok (.getfield 50, 3) := by decide +kernel
theorem dX6_isWindow_6 : decode cX6_isWindow 6 = .ok (.iconst 1, 1) := by decide +kernel
theorem dX6_isWindow_7 : decode cX6_isWindow 7 = .ok (.isub, 1) := by decide +kernel
theorem dX6_isWindow_8 : decode cX6_isWindow 8 = .ok (.invokestatic 57, 3) := by decide +kernel
theorem dX6_isWindow_11 : decode cX6_isWindow 11 = .ok (.ifCond .eq 16, 3) := by decide +kernel
theorem dX6_isWindow_14 : decode cX6_isWindow 14 = .ok (.aload_n 0, 1) := by decide +kernel
theorem dX6_isWindow_15 : decode cX6_isWindow 15 = .ok (.getfield 18, 3) := by decide +kernel
theorem dX6_isWindow_18 : decode cX6_isWindow 18 = .ok (.iload_n 1, 1) := by decide +kernel
theorem dX6_isWindow_19 : decode cX6_isWindow 19 = .ok (.baload, 1) := by decide +kernel
theorem dX6_isWindow_20 : decode cX6_isWindow 20 = .ok (.ifCond .ne 7, 3) := by decide +kernel
theorem dX6_isWindow_23 : decode cX6_isWindow 23 = .ok (.iconst 1, 1) := by decide +kernel
theorem dX6_isWindow_24 : decode cX6_isWindow 24 = .ok (.goto 4, 3) := by decide +kernel
theorem dX6_isWindow_27 : decode cX6_isWindow 27 = .ok (.iconst 0, 1) := by decide +kernel
theorem dX6_isWindow_28 : decode cX6_isWindow 28 = .ok (.ireturn, 1) := by decide +kernel
theorem dX6_lowerOf_0 : decode cX6_lowerOf 0 = .ok (.iconst 0, 1) := by decide +kernel
theorem dX6_lowerOf_1 : decode cX6_lowerOf 1 = .ok (.iload_n 1, 1) := by decide +kernel
theorem dX6_lowerOf_2 : decode cX6_lowerOf 2 = .ok (.aload_n 0, 1) := by decide +kernel
theorem dX6_lowerOf_3 : decode cX6_lowerOf 3 = .ok (.getfield 50, 3) := by decide +kernel
theorem dX6_lowerOf_6 : decode cX6_lowerOf 6 = .ok (.iconst 1, 1) := by decide +kernel
theorem dX6_lowerOf_7 : decode cX6_lowerOf 7 = .ok (.isub, 1) := by decide +kernel
theorem dX6_lowerOf_8 : decode cX6_lowerOf 8 = .ok (.invokestatic 57, 3) := by decide +kernel
theorem dX6_lowerOf_11 : decode cX6_lowerOf 11 = .ok (.ifCond .eq 12, 3) := by decide +kernel
theorem dX6_lowerOf_14 : decode cX6_lowerOf 14 = .ok (.aload_n 0, 1) := by decide +kernel
theorem dX6_lowerOf_15 : decode cX6_lowerOf 15 = .ok (.getfield 32, 3) := by decide +kernel
theorem dX6_lowerOf_18 : decode cX6_lowerOf 18 = .ok (.iload_n 1, 1) := by decide +kernel
theorem dX6_lowerOf_19 : decode cX6_lowerOf 19 = .ok (.iaload, 1) := by decide +kernel
theorem dX6_lowerOf_20 : decode cX6_lowerOf 20 = .ok (.goto 4, 3) := by decide +kernel
theorem dX6_lowerOf_23 : decode cX6_lowerOf 23 = .ok (.iconst 0, 1) := by decide +kernel
theorem dX6_lowerOf_24 : decode cX6_lowerOf 24 = .ok (.ireturn, 1) := by decide +kernel
theorem dX6_upperOf_0 : decode cX6_upperOf 0 = .ok (.iconst 0, 1) := by decide +kernel
theorem dX6_upperOf_1 : decode cX6_upperOf 1 = .ok (.iload_n 1, 1) := by decide +kernel
theorem dX6_upperOf_2 : decode cX6_upperOf 2 = .ok (.aload_n 0, 1) := by decide +kernel
theorem dX6_upperOf_3 : decode cX6_upperOf 3 = .ok (.getfield 50, 3) := by decide +kernel
theorem dX6_upperOf_6 : decode cX6_upperOf 6 = .ok (.iconst 1, 1) := by decide +kernel
theorem dX6_upperOf_7 : decode cX6_upperOf 7 = .ok (.isub, 1) := by decide +kernel
theorem dX6_upperOf_8 : decode cX6_upperOf 8 = .ok (.invokestatic 57, 3) := by decide +kernel
theorem dX6_upperOf_11 : decode cX6_upperOf 11 = .ok (.ifCond .eq 12, 3) := by decide +kernel
theorem dX6_upperOf_14 : decode cX6_upperOf 14 = .ok (.aload_n 0, 1) := by decide +kernel
theorem dX6_upperOf_15 : decode cX6_upperOf 15 = .ok (.getfield 35, 3) := by decide +kernel
theorem dX6_upperOf_18 : decode cX6_upperOf 18 = .ok (.iload_n 1, 1) := by decide +kernel
theorem dX6_upperOf_19 : decode cX6_upperOf 19 = .ok (.iaload, 1) := by decide +kernel
theorem dX6_upperOf_20 : decode cX6_upperOf 20 = .ok (.goto 4, 3) := by decide +kernel
theorem dX6_upperOf_23 : decode cX6_upperOf 23 = .ok (.iconst 0, 1) := by decide +kernel
theorem dX6_upperOf_24 : decode cX6_upperOf 24 = .ok (.ireturn, 1) := by decide +kernel
theorem dX6_lies_0 : decode cX6_lies 0 = .ok (.aload_n 0, 1) := by decide +kernel
theorem dX6_lies_1 : decode cX6_lies 1 = .ok (.getfield 22, 3) := by decide +kernel
theorem dX6_lies_4 : decode cX6_lies 4 = .ok (.iload_n 3, 1) := by decide +kernel
theorem dX6_lies_5 : decode cX6_lies 5 = .ok (.iaload, 1) := by decide +kernel
theorem dX6_lies_6 : decode cX6_lies 6 = .ok (.iload_n 1, 1) := by decide +kernel
theorem dX6_lies_7 : decode cX6_lies 7 = .ok (.if_icmp .ne 26, 3) := by decide +kernel
theorem dX6_lies_10 : decode cX6_lies 10 = .ok (.aload_n 0, 1) := by decide +kernel
theorem dX6_lies_11 : decode cX6_lies 11 = .ok (.getfield 26, 3) := by decide +kernel
theorem dX6_lies_14 : decode cX6_lies 14 = .ok (.iload_n 3, 1) := by decide +kernel
theorem dX6_lies_15 : decode cX6_lies 15 = .ok (.iaload, 1) := by decide +kernel
theorem dX6_lies_16 : decode cX6_lies 16 = .ok (.iload_n 2, 1) := by decide +kernel
theorem dX6_lies_17 : decode cX6_lies 17 = .ok (.aload_n 0, 1) := by decide +kernel
theorem dX6_lies_18 : decode cX6_lies 18 = .ok (.getfield 29, 3) := by decide +kernel
theorem dX6_lies_21 : decode cX6_lies 21 = .ok (.iload_n 3, 1) := by decide +kernel
theorem dX6_lies_22 : decode cX6_lies 22 = .ok (.iaload, 1) := by decide +kernel
theorem dX6_lies_23 : decode cX6_lies 23 = .ok (.invokestatic 57, 3) := by decide +kernel
theorem dX6_lies_26 : decode cX6_lies 26 = .ok (.ifCond .eq 7, 3) := by decide +kernel
theorem dX6_lies_29 : decode cX6_lies 29 = .ok (.iconst 1, 1) := by decide +kernel
theorem dX6_lies_30 : decode cX6_lies 30 = .ok (.goto 4, 3) := by decide +kernel
theorem dX6_lies_33 : decode cX6_lies 33 = .ok (.iconst 0, 1) := by decide +kernel
theorem dX6_lies_34 : decode cX6_lies 34 = .ok (.ireturn, 1) := by decide +kernel
theorem dX6_openingWith_0 : decode cX6_openingWith 0 = .ok (.iconst 0, 1) := by decide +kernel
theorem dX6_openingWith_1 : decode cX6_openingWith 1 = .ok (.istore 4, 2) := by decide +kernel
theorem dX6_openingWith_3 : decode cX6_openingWith 3 = .ok (.iload 4, 2) := by decide +kernel
theorem dX6_openingWith_5 : decode cX6_openingWith 5 = .ok (.aload_n 0, 1) := by decide +kernel
theorem dX6_openingWith_6 : decode cX6_openingWith 6 = .ok (.getfield 50, 3) := by decide +kernel
theorem dX6_openingWith_9 : decode cX6_openingWith 9 = .ok (.if_icmp .ge 34, 3) := by decide +kernel
theorem dX6_openingWith_12 : decode cX6_openingWith 12 = .ok (.aload_n 0, 1) := by decide +kernel
theorem dX6_openingWith_13 : decode cX6_openingWith 13 = .ok (.iload_n 1, 1) := by decide +kernel
theorem dX6_openingWith_14 : decode cX6_openingWith 14 = .ok (.iload_n 2, 1) := by decide +kernel
theorem dX6_openingWith_15 : decode cX6_openingWith 15 = .ok (.iload 4, 2) := by decide +kernel
theorem dX6_openingWith_17 : decode cX6_openingWith 17 = .ok (.invokevirtual 61, 3) := by decide +kernel
theorem dX6_openingWith_20 : decode cX6_openingWith 20 = .ok (.ifCond .eq 17, 3) := by decide +kernel
theorem dX6_openingWith_23 : decode cX6_openingWith 23 = .ok (.aload_n 0, 1) := by decide +kernel
theorem dX6_openingWith_24 : decode cX6_openingWith 24 = .ok (.iload_n 1, 1) := by decide +kernel
theorem dX6_openingWith_25 : decode cX6_openingWith 25 = .ok (.iload_n 3, 1) := by decide +kernel
theorem dX6_openingWith_26 : decode cX6_openingWith 26 = .ok (.iload 4, 2) := by decide +kernel
theorem dX6_openingWith_28 : decode cX6_openingWith 28 = .ok (.invokevirtual 61, 3) := by decide +kernel
theorem dX6_openingWith_31 : decode cX6_openingWith 31 = .ok (.ifCond .eq 6, 3) := by decide +kernel
theorem dX6_openingWith_34 : decode cX6_openingWith 34 = .ok (.iload 4, 2) := by decide +kernel
theorem dX6_openingWith_36 : decode cX6_openingWith 36 = .ok (.ireturn, 1) := by decide +kernel
theorem dX6_openingWith_37 : decode cX6_openingWith 37 = .ok (.iinc 4 1, 3) := by decide +kernel
theorem dX6_openingWith_40 : decode cX6_openingWith 40 = .ok (.goto (-37), 3) := by decide +kernel
theorem dX6_openingWith_43 : decode cX6_openingWith 43 = .ok (.iconst (-1), 1) := by decide +kernel
theorem dX6_openingWith_44 : decode cX6_openingWith 44 = .ok (.ireturn, 1) := by decide +kernel
theorem dX6_opensAt_0 : decode cX6_opensAt 0 = .ok (.iconst 0, 1) := by decide +kernel
theorem dX6_opensAt_1 : decode cX6_opensAt 1 = .ok (.istore 5, 2) := by decide +kernel
theorem dX6_opensAt_3 : decode cX6_opensAt 3 = .ok (.iload 5, 2) := by decide +kernel
theorem dX6_opensAt_5 : decode cX6_opensAt 5 = .ok (.aload_n 0, 1) := by decide +kernel
theorem dX6_opensAt_6 : decode cX6_opensAt 6 = .ok (.getfield 50, 3) := by decide +kernel
theorem dX6_opensAt_9 : decode cX6_opensAt 9 = .ok (.if_icmp .ge 45, 3) := by decide +kernel
theorem dX6_opensAt_12 : decode cX6_opensAt 12 = .ok (.aload_n 0, 1) := by decide +kernel
theorem dX6_opensAt_13 : decode cX6_opensAt 13 = .ok (.iload_n 1, 1) := by decide +kernel
theorem dX6_opensAt_14 : decode cX6_opensAt 14 = .ok (.iload_n 2, 1) := by decide +kernel
theorem dX6_opensAt_15 : decode cX6_opensAt 15 = .ok (.iload 5, 2) := by decide +kernel
theorem dX6_opensAt_17 : decode cX6_opensAt 17 = .ok (.invokevirtual 61, 3) := by decide +kernel
theorem dX6_opensAt_20 : decode cX6_opensAt 20 = .ok (.ifCond .eq 28, 3) := by decide +kernel
theorem dX6_opensAt_23 : decode cX6_opensAt 23 = .ok (.aload_n 0, 1) := by decide +kernel
theorem dX6_opensAt_24 : decode cX6_opensAt 24 = .ok (.getfield 32, 3) := by decide +kernel
theorem dX6_opensAt_27 : decode cX6_opensAt 27 = .ok (.iload 5, 2) := by decide +kernel
theorem dX6_opensAt_29 : decode cX6_opensAt 29 = .ok (.iaload, 1) := by decide +kernel
theorem dX6_opensAt_30 : decode cX6_opensAt 30 = .ok (.iload 4, 2) := by decide +kernel
theorem dX6_opensAt_32 : decode cX6_opensAt 32 = .ok (.if_icmp .ge 16, 3) := by decide +kernel
theorem dX6_opensAt_35 : decode cX6_opensAt 35 = .ok (.aload_n 0, 1) := by decide +kernel
theorem dX6_opensAt_36 : decode cX6_opensAt 36 = .ok (.getfield 35, 3) := by decide +kernel
theorem dX6_opensAt_39 : decode cX6_opensAt 39 = .ok (.iload 5, 2) := by decide +kernel
theorem dX6_opensAt_41 : decode cX6_opensAt 41 = .ok (.iaload, 1) := by decide +kernel
theorem dX6_opensAt_42 : decode cX6_opensAt 42 = .ok (.iload_n 3, 1) := by decide +kernel
theorem dX6_opensAt_43 : decode cX6_opensAt 43 = .ok (.if_icmp .le 5, 3) := by decide +kernel
theorem dX6_opensAt_46 : decode cX6_opensAt 46 = .ok (.iconst 1, 1) := by decide +kernel
theorem dX6_opensAt_47 : decode cX6_opensAt 47 = .ok (.ireturn, 1) := by decide +kernel
theorem dX6_opensAt_48 : decode cX6_opensAt 48 = .ok (.iinc 5 1, 3) := by decide +kernel
theorem dX6_opensAt_51 : decode cX6_opensAt 51 = .ok (.goto (-48), 3) := by decide +kernel
theorem dX6_opensAt_54 : decode cX6_opensAt 54 = .ok (.iconst 0, 1) := by decide +kernel
theorem dX6_opensAt_55 : decode cX6_opensAt 55 = .ok (.ireturn, 1) := by decide +kernel
theorem dX6_doorAtCorner_0 : decode cX6_doorAtCorner 0 = .ok (.aload_n 0, 1) := by decide +kernel
theorem dX6_doorAtCorner_1 : decode cX6_doorAtCorner 1 = .ok (.getfield 12, 3) := by decide +kernel
theorem dX6_doorAtCorner_4 : decode cX6_doorAtCorner 4 = .ok (.iload_n 1, 1) := by decide +kernel
theorem dX6_doorAtCorner_5 : decode cX6_doorAtCorner 5 = .ok (.invokevirtual 64, 3) := by decide +kernel
theorem dX6_doorAtCorner_8 : decode cX6_doorAtCorner 8 = .ok (.istore_n 2, 1) := by decide +kernel
theorem dX6_doorAtCorner_9 : decode cX6_doorAtCorner 9 = .ok (.iconst 0, 1) := by decide +kernel
theorem dX6_doorAtCorner_10 : decode cX6_doorAtCorner 10 = .ok (.istore_n 3, 1) := by decide +kernel
theorem dX6_doorAtCorner_11 : decode cX6_doorAtCorner 11 = .ok (.iload_n 3, 1) := by decide +kernel
theorem dX6_doorAtCorner_12 : decode cX6_doorAtCorner 12 = .ok (.aload_n 0, 1) := by decide +kernel
theorem dX6_doorAtCorner_13 : decode cX6_doorAtCorner 13 = .ok (.getfield 50, 3) := by decide +kernel
theorem dX6_doorAtCorner_16 : decode cX6_doorAtCorner 16 = .ok (.if_icmp .ge 47, 3) := by decide +kernel
theorem dX6_doorAtCorner_19 : decode cX6_doorAtCorner 19 = .ok (.aload_n 0, 1) := by decide +kernel
theorem dX6_doorAtCorner_20 : decode cX6_doorAtCorner 20 = .ok (.getfield 18, 3) := by decide +kernel
theorem dX6_doorAtCorner_23 : decode cX6_doorAtCorner 23 = .ok (.iload_n 3, 1) := by decide +kernel
theorem dX6_doorAtCorner_24 : decode cX6_doorAtCorner 24 = .ok (.baload, 1) := by decide +kernel
theorem dX6_doorAtCorner_25 : decode cX6_doorAtCorner 25 = .ok (.ifCond .eq 32, 3) := by decide +kernel
theorem dX6_doorAtCorner_28 : decode cX6_doorAtCorner 28 = .ok (.aload_n 0, 1) := by decide +kernel
theorem dX6_doorAtCorner_29 : decode cX6_doorAtCorner 29 = .ok (.iload_n 1, 1) := by decide +kernel
