theorem dX1_look_0 : decode cX1_look 0 = .ok (.aload_n 0, 1) := by decide +kernel
theorem dX1_look_1 : decode cX1_look 1 = .ok (.aload_n 1, 1) := by decide +kernel
theorem dX1_look_2 : decode cX1_look 2 = .ok (.putfield 20, 3) := by decide +kernel
theorem dX1_look_5 : decode cX1_look 5 = .ok (.aload_n 0, 1) := by decide +kernel
theorem dX1_look_6 : decode cX1_look 6 = .ok (.aload_n 2, 1) := by decide +kernel
theorem dX1_look_7 : decode cX1_look 7 = .ok (.putfield 24, 3) := by decide +kernel
theorem dX1_look_10 : decode cX1_look 10 = .ok (.aload_n 0, 1) := by decide +kernel
theorem dX1_look_11 : decode cX1_look 11 = .ok (.aload_n 0, 1) := by decide +kernel
theorem dX1_look_12 : decode cX1_look 12 = .ok (.getfield 20, 3) := by decide +kernel
theorem dX1_look_15 : decode cX1_look 15 = .ok (.getfield 28, 3) := by decide +kernel
theorem dX1_look_18 : decode cX1_look 18 = .ok (.getfield 32, 3) := by decide +kernel
theorem dX1_look_21 : decode cX1_look 21 = .ok (.putfield 38, 3) := by decide +kernel
theorem dX1_look_24 : decode cX1_look 24 = .ok (.aload_n 0, 1) := by decide +kernel
theorem dX1_look_25 : decode cX1_look 25 = .ok (.getfield 38, 3) := by decide +kernel
theorem dX1_look_28 : decode cX1_look 28 = .ok (.aload_n 0, 1) := by decide +kernel
theorem dX1_look_29 : decode cX1_look 29 = .ok (.getfield 24, 3) := by decide +kernel
theorem dX1_look_32 : decode cX1_look 32 = .ok (.getfield 39, 3) := by decide +kernel
theorem dX1_look_35 : decode cX1_look 35 = .ok (.invokestatic 44, 3) := by decide +kernel
theorem dX1_look_38 : decode cX1_look 38 = .ok (.ifCond .eq 7, 3) := by decide +kernel
theorem dX1_look_41 : decode cX1_look 41 = .ok (.iconst 1, 1) := by decide +kernel
theorem dX1_look_42 : decode cX1_look 42 = .ok (.goto 4, 3) := by decide +kernel
theorem dX1_look_45 : decode cX1_look 45 = .ok (.iconst 0, 1) := by decide +kernel
theorem dX1_look_46 : decode cX1_look 46 = .ok (.istore_n 3, 1) := by decide +kernel
theorem dX1_look_47 : decode cX1_look 47 = .ok (.aload_n 0, 1) := by decide +kernel
theorem dX1_look_48 : decode cX1_look 48 = .ok (.getfield 24, 3) := by decide +kernel
theorem dX1_look_51 : decode cX1_look 51 = .ok (.getfield 48, 3) := by decide +kernel
theorem dX1_look_54 : decode cX1_look 54 = .ok (.iconst 1, 1) := by decide +kernel
theorem dX1_look_55 : decode cX1_look 55 = .ok (.if_icmp .ne 24, 3) := by decide +kernel
theorem dX1_look_58 : decode cX1_look 58 = .ok (.aload_n 0, 1) := by decide +kernel
theorem dX1_look_59 : decode cX1_look 59 = .ok (.getfield 24, 3) := by decide +kernel
theorem dX1_look_62 : decode cX1_look 62 = .ok (.aload_n 0, 1) := by decide +kernel
theorem dX1_look_63 : decode cX1_look 63 = .ok (.getfield 38, 3) := by decide +kernel
theorem dX1_look_66 : decode cX1_look 66 = .ok (.invokevirtual 51, 3) := by decide +kernel
theorem dX1_look_69 : decode cX1_look 69 = .ok (.iconst 1, 1) := by decide +kernel
theorem dX1_look_70 : decode cX1_look 70 = .ok (.iand, 1) := by decide +kernel
theorem dX1_look_71 : decode cX1_look 71 = .ok (.iconst 1, 1) := by decide +kernel
theorem dX1_look_72 : decode cX1_look 72 = .ok (.if_icmp .ne 7, 3) := by decide +kernel
theorem dX1_look_75 : decode cX1_look 75 = .ok (.iconst 1, 1) := by decide +kernel
theorem dX1_look_76 : decode cX1_look 76 = .ok (.goto 4, 3) := by decide +kernel
theorem dX1_look_79 : decode cX1_look 79 = .ok (.iconst 0, 1) := by decide +kernel
theorem dX1_look_80 : decode cX1_look 80 = .ok (.istore 4, 2) := by decide +kernel
theorem dX1_look_82 : decode cX1_look 82 = .ok (.aload_n 0, 1) := by decide +kernel
theorem dX1_look_83 : decode cX1_look 83 = .ok (.aload_n 0, 1) := by decide +kernel
theorem dX1_look_84 : decode cX1_look 84 = .ok (.getfield 24, 3) := by decide +kernel
theorem dX1_look_87 : decode cX1_look 87 = .ok (.getfield 48, 3) := by decide +kernel
theorem dX1_look_90 : decode cX1_look 90 = .ok (.iconst 2, 1) := by decide +kernel
theorem dX1_look_91 : decode cX1_look 91 = .ok (.if_icmp .eq 16, 3) := by decide +kernel
theorem dX1_look_94 : decode cX1_look 94 = .ok (.iload_n 3, 1) := by decide +kernel
theorem dX1_look_95 : decode cX1_look 95 = .ok (.ifCond .ne 8, 3) := by decide +kernel
theorem dX1_look_98 : decode cX1_look 98 = .ok (.iload 4, 2) := by decide +kernel
theorem dX1_look_100 : decode cX1_look 100 = .ok (.ifCond .eq 7, 3) := by decide +kernel
theorem dX1_look_103 : decode cX1_look 103 = .ok (.iconst 1, 1) := by decide +kernel
theorem dX1_look_104 : decode cX1_look 104 = .ok (.goto 4, 3) := by decide +kernel
theorem dX1_look_107 : decode cX1_look 107 = .ok (.iconst 0, 1) := by decide +kernel
theorem dX1_look_108 : decode cX1_look 108 = .ok (.putfield 55, 3) := by decide +kernel
theorem dX1_look_111 : decode cX1_look 111 = .ok (.iconst 0, 1) := by decide +kernel
theorem dX1_look_112 : decode cX1_look 112 = .ok (.istore 5, 2) := by decide +kernel
theorem dX1_look_114 : decode cX1_look 114 = .ok (.iload 5, 2) := by decide +kernel
theorem dX1_look_116 : decode cX1_look 116 = .ok (.aload_n 0, 1) := by decide +kernel
theorem dX1_look_117 : decode cX1_look 117 = .ok (.getfield 24, 3) := by decide +kernel
theorem dX1_look_120 : decode cX1_look 120 = .ok (.getfield 59, 3) := by decide +kernel
theorem dX1_look_123 : decode cX1_look 123 = .ok (.if_icmp .ge 29, 3) := by decide +kernel
theorem dX1_look_126 : decode cX1_look 126 = .ok (.iload 5, 2) := by decide +kernel
theorem dX1_look_128 : decode cX1_look 128 = .ok (.bipush 120, 2) := by decide +kernel
theorem dX1_look_130 : decode cX1_look 130 = .ok (.if_icmp .ge 22, 3) := by decide +kernel
theorem dX1_look_133 : decode cX1_look 133 = .ok (.aload_n 0, 1) := by decide +kernel
theorem dX1_look_134 : decode cX1_look 134 = .ok (.getfield 11, 3) := by decide +kernel
theorem dX1_look_137 : decode cX1_look 137 = .ok (.iload 5, 2) := by decide +kernel
theorem dX1_look_139 : decode cX1_look 139 = .ok (.aload_n 0, 1) := by decide +kernel
theorem dX1_look_140 : decode cX1_look 140 = .ok (.iload 5, 2) := by decide +kernel
theorem dX1_look_142 : decode cX1_look 142 = .ok (.invokevirtual 62, 3) := by decide +kernel
theorem dX1_look_145 : decode cX1_look 145 = .ok (.iastore, 1) := by decide +kernel
theorem dX1_look_146 : decode cX1_look 146 = .ok (.iinc 5 1, 3) := by decide +kernel
theorem dX1_look_149 : decode cX1_look 149 = .ok (.goto (-35), 3) := by decide +kernel
theorem dX1_look_152 : decode cX1_look 152 = .ok (.return_, 1) := by decide +kernel
theorem dX1_seamAt_0 : decode cX1_seamAt 0 = .ok (.aload_n 0, 1) := by decide +kernel
theorem dX1_seamAt_1 : decode cX1_seamAt 1 = .ok (.getfield 55, 3) := by decide +kernel
theorem dX1_seamAt_4 : decode cX1_seamAt 4 = .ok (.ifCond .ne 5, 3) := by decide +kernel
theorem dX1_seamAt_7 : decode cX1_seamAt 7 = .ok (.iconst 0, 1) := by decide +kernel
theorem dX1_seamAt_8 : decode cX1_seamAt 8 = .ok (.ireturn, 1) := by decide +kernel
theorem dX1_seamAt_9 : decode cX1_seamAt 9 = .ok (.aload_n 0, 1) := by decide +kernel
theorem dX1_seamAt_10 : decode cX1_seamAt 10 = .ok (.getfield 20, 3) := by decide +kernel
theorem dX1_seamAt_13 : decode cX1_seamAt 13 = .ok (.getfield 28, 3) := by decide +kernel
theorem dX1_seamAt_16 : decode cX1_seamAt 16 = .ok (.iload_n 1, 1) := by decide +kernel
theorem dX1_seamAt_17 : decode cX1_seamAt 17 = .ok (.invokevirtual 65, 3) := by decide +kernel
theorem dX1_seamAt_20 : decode cX1_seamAt 20 = .ok (.istore_n 2, 1) := by decide +kernel
theorem dX1_seamAt_21 : decode cX1_seamAt 21 = .ok (.iload_n 1, 1) := by decide +kernel
theorem dX1_seamAt_22 : decode cX1_seamAt 22 = .ok (.aload_n 0, 1) := by decide +kernel
theorem dX1_seamAt_23 : decode cX1_seamAt 23 = .ok (.getfield 20, 3) := by decide +kernel
theorem dX1_seamAt_26 : decode cX1_seamAt 26 = .ok (.getfield 28, 3) := by decide +kernel
theorem dX1_seamAt_29 : decode cX1_seamAt 29 = .ok (.iload_n 2, 1) := by decide +kernel
theorem dX1_seamAt_30 : decode cX1_seamAt 30 = .ok (.invokevirtual 68, 3) := by decide +kernel
theorem dX1_seamAt_33 : decode cX1_seamAt 33 = .ok (.isub, 1) := by decide +kernel
theorem dX1_seamAt_34 : decode cX1_seamAt 34 = .ok (.istore_n 3, 1) := by decide +kernel
theorem dX1_seamAt_35 : decode cX1_seamAt 35 = .ok (.aload_n 0, 1) := by decide +kernel
theorem dX1_seamAt_36 : decode cX1_seamAt 36 = .ok (.getfield 20, 3) := by decide +kernel
theorem dX1_seamAt_39 : decode cX1_seamAt 39 = .ok (.iload_n 2, 1) := by decide +kernel
theorem dX1_seamAt_40 : decode cX1_seamAt 40 = .ok (.iload_n 3, 1) := by decide +kernel
theorem dX1_seamAt_41 : decode cX1_seamAt 41 = .ok (.iload_n 3, 1) := by decide +kernel
theorem dX1_seamAt_42 : decode cX1_seamAt 42 = .ok (.invokevirtual 71, 3) := by decide +kernel
theorem dX1_seamAt_45 : decode cX1_seamAt 45 = .ok (.istore 4, 2) := by decide +kernel
theorem dX1_seamAt_47 : decode cX1_seamAt 47 = .ok (.aload_n 0, 1) := by decide +kernel
theorem dX1_seamAt_48 : decode cX1_seamAt 48 = .ok (.getfield 20, 3) := by decide +kernel
theorem dX1_seamAt_51 : decode cX1_seamAt 51 = .ok (.getfield 28, 3) := by decide +kernel
theorem dX1_seamAt_54 : decode cX1_seamAt 54 = .ok (.iload_n 2, 1) := by decide +kernel
theorem dX1_seamAt_55 : decode cX1_seamAt 55 = .ok (.iload_n 3, 1) := by decide +kernel
theorem dX1_seamAt_56 : decode cX1_seamAt 56 = .ok (.invokevirtual 75, 3) := by decide +kernel
theorem dX1_seamAt_59 : decode cX1_seamAt 59 = .ok (.aload_n 0, 1) := by decide +kernel
theorem dX1_seamAt_60 : decode cX1_seamAt 60 = .ok (.getfield 20, 3) := by decide +kernel
theorem dX1_seamAt_63 : decode cX1_seamAt 63 = .ok (.iload 4, 2) := by decide +kernel
theorem dX1_seamAt_65 : decode cX1_seamAt 65 = .ok (.invokevirtual 78, 3) := by decide +kernel
theorem dX1_seamAt_68 : decode cX1_seamAt 68 = .ok (.aload_n 0, 1) := by decide +kernel
theorem dX1_seamAt_69 : decode cX1_seamAt 69 = .ok (.getfield 20, 3) := by decide +kernel
theorem dX1_seamAt_72 : decode cX1_seamAt 72 = .ok (.iload 4, 2) := by decide +kernel
theorem dX1_seamAt_74 : decode cX1_seamAt 74 = .ok (.invokevirtual 81, 3) := by decide +kernel
theorem dX1_seamAt_77 : decode cX1_seamAt 77 = .ok (.isub, 1) := by decide +kernel
theorem dX1_seamAt_78 : decode cX1_seamAt 78 = .ok (.isub, 1) := by decide +kernel
theorem dX1_seamAt_79 : decode cX1_seamAt 79 = .ok (.ireturn, 1) := by decide +kernel
theorem dX1_narrowness_0 : decode cX1_narrowness 0 = .ok (.aload_n 0, 1) := by decide +kernel
theorem dX1_narrowness_1 : decode cX1_narrowness 1 = .ok (.getfield 38, 3) := by decide +kernel
theorem dX1_narrowness_4 : decode cX1_narrowness 4 = .ok (.aload_n 0, 1) := by decide +kernel
theorem dX1_narrowness_5 : decode cX1_narrowness 5 = .ok (.getfield 24, 3) := by decide +kernel
theorem dX1_narrowness_8 : decode cX1_narrowness 8 = .ok (.aload_n 0, 1) := by decide +kernel
theorem dX1_narrowness_9 : decode cX1_narrowness 9 = .ok (.getfield 38, 3) := by decide +kernel
theorem dX1_narrowness_12 : decode cX1_narrowness 12 = .ok (.invokevirtual 51, 3) := by decide +kernel
theorem dX1_narrowness_15 : decode cX1_narrowness 15 = .ok (.iconst 1, 1) := by decide +kernel
theorem dX1_narrowness_16 : decode cX1_narrowness 16 = .ok (.isub, 1) := by decide +kernel
theorem dX1_narrowness_17 : decode cX1_narrowness 17 = .ok (.aload_n 0, 1) := by decide +kernel
theorem dX1_narrowness_18 : decode cX1_narrowness 18 = .ok (.getfield 24, 3) := by decide +kernel
theorem dX1_narrowness_21 : decode cX1_narrowness 21 = .ok (.getfield 39, 3) := by decide +kernel
theorem dX1_narrowness_24 : decode cX1_narrowness 24 = .ok (.imul, 1) := by decide +kernel
theorem dX1_narrowness_25 : decode cX1_narrowness 25 = .ok (.isub, 1) := by decide +kernel
theorem dX1_narrowness_26 : decode cX1_narrowness 26 = .ok (.istore_n 1, 1) := by decide +kernel
theorem dX1_narrowness_27 : decode cX1_narrowness 27 = .ok (.iload_n 1, 1) := by decide +kernel
theorem dX1_narrowness_28 : decode cX1_narrowness 28 = .ok (.bipush 10, 2) := by decide +kernel
theorem dX1_narrowness_30 : decode cX1_narrowness 30 = .ok (.if_icmp .ge 8, 3) := by decide +kernel
theorem dX1_narrowness_33 : decode cX1_narrowness 33 = .ok (.bipush 50, 2) := by decide +kernel
theorem dX1_narrowness_35 : decode cX1_narrowness 35 = .ok (.goto 4, 3) := by decide +kernel
theorem dX1_narrowness_38 : decode cX1_narrowness 38 = .ok (.iconst 0, 1) := by decide +kernel
theorem dX1_narrowness_39 : decode cX1_narrowness 39 = .ok (.ireturn, 1) := by decide +kernel
theorem dX1_brokenStands_0 : decode cX1_brokenStands 0 = .ok (.aload_n 0, 1) := by decide +kernel
theorem dX1_brokenStands_1 : decode cX1_brokenStands 1 = .ok (.aload_n 0, 1) := by decide +kernel
theorem dX1_brokenStands_2 : decode cX1_brokenStands 2 = .ok (.iload_n 1, 1) := by decide +kernel
theorem dX1_brokenStands_3 : decode cX1_brokenStands 3 = .ok (.iconst 0, 1) := by decide +kernel
theorem dX1_brokenStands_4 : decode cX1_brokenStands 4 = .ok (.invokevirtual 84, 3) := by decide +kernel
theorem dX1_brokenStands_7 : decode cX1_brokenStands 7 = .ok (.aload_n 0, 1) := by decide +kernel
theorem dX1_brokenStands_8 : decode cX1_brokenStands 8 = .ok (.iload_n 1, 1) := by decide +kernel
theorem dX1_brokenStands_9 : decode cX1_brokenStands 9 = .ok (.iconst 1, 1) := by decide +kernel
theorem dX1_brokenStands_10 : decode cX1_brokenStands 10 = .ok (.invokevirtual 84, 3) := by decide +kernel
theorem dX1_brokenStands_13 : decode cX1_brokenStands 13 = .ok (.iload_n 2, 1) := by decide +kernel
theorem dX1_brokenStands_14 : decode cX1_brokenStands 14 = .ok (.invokevirtual 87, 3) := by decide +kernel
theorem dX1_brokenStands_17 : decode cX1_brokenStands 17 = .ok (.istore_n 3, 1) := by decide +kernel
theorem dX1_brokenStands_18 : decode cX1_brokenStands 18 = .ok (.iconst 1, 1) := by decide +kernel
theorem dX1_brokenStands_19 : decode cX1_brokenStands 19 = .ok (.aload_n 0, 1) := by decide +kernel
theorem dX1_brokenStands_20 : decode cX1_brokenStands 20 = .ok (.getfield 20, 3) := by decide +kernel
theorem dX1_brokenStands_23 : decode cX1_brokenStands 23 = .ok (.getfield 90, 3) := by decide +kernel
theorem dX1_brokenStands_26 : decode cX1_brokenStands 26 = .ok (.ishl, 1) := by decide +kernel
theorem dX1_brokenStands_27 : decode cX1_brokenStands 27 = .ok (.iconst 1, 1) := by decide +kernel
theorem dX1_brokenStands_28 : decode cX1_brokenStands 28 = .ok (.isub, 1) := by decide +kernel
theorem dX1_brokenStands_29 : decode cX1_brokenStands 29 = .ok (.iload_n 3, 1) := by decide +kernel
theorem dX1_brokenStands_30 : decode cX1_brokenStands 30 = .ok (.iconst (-1), 1) := by decide +kernel
theorem dX1_brokenStands_31 : decode cX1_brokenStands 31 = .ok (.ixor, 1) := by decide +kernel
theorem dX1_brokenStands_32 : decode cX1_brokenStands 32 = .ok (.iand, 1) := by decide +kernel
theorem dX1_brokenStands_33 : decode cX1_brokenStands 33 = .ok (.ireturn, 1) := by decide +kernel
theorem dX1_wholeStands_0 : decode cX1_wholeStands 0 = .ok (.aload_n 0, 1) := by decide +kernel
theorem dX1_wholeStands_1 : decode cX1_wholeStands 1 = .ok (.getfield 24, 3) := by decide +kernel
theorem dX1_wholeStands_4 : decode cX1_wholeStands 4 = .ok (.iconst 0, 1) := by decide +kernel
theorem dX1_wholeStands_5 : decode cX1_wholeStands 5 = .ok (.iload_n 3, 1) := by decide +kernel
theorem dX1_wholeStands_6 : decode cX1_wholeStands 6 = .ok (.invokevirtual 93, 3) := by decide +kernel
theorem dX1_wholeStands_9 : decode cX1_wholeStands 9 = .ok (.istore 4, 2) := by decide +kernel
theorem dX1_wholeStands_11 : decode cX1_wholeStands 11 = .ok (.aload_n 0, 1) := by decide +kernel
theorem dX1_wholeStands_12 : decode cX1_wholeStands 12 = .ok (.getfield 24, 3) := by decide +kernel
theorem dX1_wholeStands_15 : decode cX1_wholeStands 15 = .ok (.iconst 1, 1) := by decide +kernel
theorem dX1_wholeStands_16 : decode cX1_wholeStands 16 = .ok (.iload_n 3, 1) := by decide +kernel
theorem dX1_wholeStands_17 : decode cX1_wholeStands 17 = .ok (.invokevirtual 93, 3) := by decide +kernel
theorem dX1_wholeStands_20 : decode cX1_wholeStands 20 = .ok (.istore 5, 2) := by decide +kernel
theorem dX1_wholeStands_22 : decode cX1_wholeStands 22 = .ok (.iload 4, 2) := by decide +kernel
theorem dX1_wholeStands_24 : decode cX1_wholeStands 24 = .ok (.bipush 120, 2) := by decide +kernel
theorem dX1_wholeStands_26 : decode cX1_wholeStands 26 = .ok (.if_icmp .ge 10, 3) := by decide +kernel
theorem dX1_wholeStands_29 : decode cX1_wholeStands 29 = .ok (.iload 5, 2) := by decide +kernel
theorem dX1_wholeStands_31 : decode cX1_wholeStands 31 = .ok (.bipush 120, 2) := by decide +kernel
theorem dX1_wholeStands_33 : decode cX1_wholeStands 33 = .ok (.if_icmp .lt 5, 3) := by decide +kernel
theorem dX1_wholeStands_36 : decode cX1_wholeStands 36 = .ok (.iconst 0, 1) := by decide +kernel
theorem dX1_wholeStands_37 : decode cX1_wholeStands 37 = .ok (.ireturn, 1) := by decide +kernel
theorem dX1_wholeStands_38 : decode cX1_wholeStands 38 = .ok (.iload_n 1, 1) := by decide +kernel
theorem dX1_wholeStands_39 : decode cX1_wholeStands 39 = .ok (.aload_n 0, 1) := by decide +kernel
theorem dX1_wholeStands_40 : decode cX1_wholeStands 40 = .ok (.getfield 11, 3) := by decide +kernel
theorem dX1_wholeStands_43 : decode cX1_wholeStands 43 = .ok (.iload 4, 2) := by decide +kernel
theorem dX1_wholeStands_45 : decode cX1_wholeStands 45 = .ok (.iaload, 1) := by decide +kernel
theorem dX1_wholeStands_46 : decode cX1_wholeStands 46 = .ok (.iand, 1) := by decide +kernel
theorem dX1_wholeStands_47 : decode cX1_wholeStands 47 = .ok (.iload_n 2, 1) := by decide +kernel
theorem dX1_wholeStands_48 : decode cX1_wholeStands 48 = .ok (.aload_n 0, 1) := by decide +kernel
theorem dX1_wholeStands_49 : decode cX1_wholeStands 49 = .ok (.getfield 11, 3) := by decide +kernel
theorem dX1_wholeStands_52 : decode cX1_wholeStands 52 = .ok (.iload 5, 2) := by decide +kernel
theorem dX1_wholeStands_54 : decode cX1_wholeStands 54 = .ok (.iaload, 1) := by decide +kernel
theorem dX1_wholeStands_55 : decode cX1_wholeStands 55 = .ok (.iand, 1) := by decide +kernel
theorem dX1_wholeStands_56 : decode cX1_wholeStands 56 = .ok (.ior, 1) := by decide +kernel
theorem dX1_wholeStands_57 : decode cX1_wholeStands 57 = .ok (.ireturn, 1) := by decide +kernel
theorem dX1_search_0 : decode cX1_search 0 = .ok (.aload_n 0, 1) := by decide +kernel
theorem dX1_search_1 : decode cX1_search 1 = .ok (.ldc 96, 2) := by decide +kernel
theorem dX1_search_3 : decode cX1_search 3 = .ok (.putfield 97, 3) := by decide +kernel
theorem dX1_search_6 : decode cX1_search 6 = .ok (.iload_n 1, 1) := by decide +kernel
theorem dX1_search_7 : decode cX1_search 7 = .ok (.ifCond .gt 4, 3) := by decide +kernel
theorem dX1_search_10 : decode cX1_search 10 = .ok (.return_, 1) := by decide +kernel
theorem dX1_search_11 : decode cX1_search 11 = .ok (.iconst 0, 1) := by decide +kernel
theorem dX1_search_12 : decode cX1_search 12 = .ok (.istore_n 2, 1) := by decide +kernel
theorem dX1_search_13 : decode cX1_search 13 = .ok (.iload_n 2, 1) := by decide +kernel
theorem dX1_search_14 : decode cX1_search 14 = .ok (.sipush 256, 3) := by decide +kernel
theorem dX1_search_17 : decode cX1_search 17 = .ok (.if_icmp .ge 16, 3) := by decide +kernel
theorem dX1_search_20 : decode cX1_search 20 = .ok (.aload_n 0, 1) := by decide +kernel
theorem dX1_search_21 : decode cX1_search 21 = .ok (.getfield 17, 3) := by decide +kernel
theorem dX1_search_24 : decode cX1_search 24 = .ok (.iload_n 2, 1) := by decide +kernel
theorem dX1_search_25 : decode cX1_search 25 = .ok (.iconst (-1), 1) := by decide +kernel
theorem dX1_search_26 : decode cX1_search 26 = .ok (.iastore, 1) := by decide +kernel
theorem dX1_search_27 : decode cX1_search 27 = .ok (.iinc 2 1, 3) := by decide +kernel
theorem dX1_search_30 : decode cX1_search 30 = .ok (.goto (-17), 3) := by decide +kernel
theorem dX1_search_33 : decode cX1_search 33 = .ok (.iconst 0, 1) := by decide +kernel
theorem dX1_search_34 : decode cX1_search 34 = .ok (.istore_n 2, 1) := by decide +kernel
theorem dX1_search_35 : decode cX1_search 35 = .ok (.iload_n 2, 1) := by decide +kernel
theorem dX1_search_36 : decode cX1_search 36 = .ok (.aload_n 0, 1) := by decide +kernel
theorem dX1_search_37 : decode cX1_search 37 = .ok (.getfield 38, 3) := by decide +kernel
theorem dX1_search_40 : decode cX1_search 40 = .ok (.if_icmp .ge 16, 3) := by decide +kernel
theorem dX1_search_43 : decode cX1_search 43 = .ok (.aload_n 0, 1) := by decide +kernel
theorem dX1_search_44 : decode cX1_search 44 = .ok (.iload_n 2, 1) := by decide +kernel
theorem dX1_search_45 : decode cX1_search 45 = .ok (.iload_n 1, 1) := by decide +kernel
theorem dX1_search_46 : decode cX1_search 46 = .ok (.invokevirtual 100, 3) := by decide +kernel
theorem dX1_search_49 : decode cX1_search 49 = .ok (.iload_n 2, 1) := by decide +kernel
theorem dX1_search_50 : decode cX1_search 50 = .ok (.iload_n 1, 1) := by decide +kernel
theorem dX1_search_51 : decode cX1_search 51 = .ok (.iadd, 1) := by decide +kernel
theorem dX1_search_52 : decode cX1_search 52 = .ok (.istore_n 2, 1) := by decide +kernel
theorem dX1_search_53 : decode cX1_search 53 = .ok (.goto (-18), 3) := by decide +kernel
theorem dX1_search_56 : decode cX1_search 56 = .ok (.return_, 1) := by decide +kernel
theorem dX1_judgeStart_0 : decode cX1_judgeStart 0 = .ok (.aload_n 0, 1) := by decide +kernel
theorem dX1_judgeStart_1 : decode cX1_judgeStart 1 = .ok (.iload_n 1, 1) := by decide +kernel
theorem dX1_judgeStart_2 : decode cX1_judgeStart 2 = .ok (.invokevirtual 104, 3) := by decide +kernel
theorem dX1_judgeStart_5 : decode cX1_judgeStart 5 = .ok (.aload_n 0, 1) := by decide +kernel
theorem dX1_judgeStart_6 : decode cX1_judgeStart 6 = .ok (.invokevirtual 107, 3) := by decide +kernel
theorem dX1_judgeStart_9 : decode cX1_judgeStart 9 = .ok (.iadd, 1) := by decide +kernel
theorem dX1_judgeStart_10 : decode cX1_judgeStart 10 = .ok (.istore_n 3, 1) := by decide +kernel
theorem dX1_judgeStart_11 : decode cX1_judgeStart 11 = .ok (.iload_n 3, 1) := by decide +kernel
theorem dX1_judgeStart_12 : decode cX1_judgeStart 12 = .ok (.aload_n 0, 1) := by decide +kernel
theorem dX1_judgeStart_13 : decode cX1_judgeStart 13 = .ok (.getfield 97, 3) := by decide +kernel
theorem dX1_judgeStart_16 : decode cX1_judgeStart 16 = .ok (.if_icmp .lt 4, 3) := by decide +kernel
theorem dX1_judgeStart_19 : decode cX1_judgeStart 19 = .ok (.return_, 1) := by decide +kernel
theorem dX1_judgeStart_20 : decode cX1_judgeStart 20 = .ok (.aload_n 0, 1) := by decide +kernel
theorem dX1_judgeStart_21 : decode cX1_judgeStart 21 = .ok (.iload_n 1, 1) := by decide +kernel
theorem dX1_judgeStart_22 : decode cX1_judgeStart 22 = .ok (.iconst 0, 1) := by decide +kernel
theorem dX1_judgeStart_23 : decode cX1_judgeStart 23 = .ok (.invokevirtual 84, 3) := by decide +kernel
theorem dX1_judgeStart_26 : decode cX1_judgeStart 26 = .ok (.istore 4, 2) := by decide +kernel
theorem dX1_judgeStart_28 : decode cX1_judgeStart 28 = .ok (.aload_n 0, 1) := by decide +kernel
theorem dX1_judgeStart_29 : decode cX1_judgeStart 29 = .ok (.iload_n 1, 1) := by decide +kernel
theorem dX1_judgeStart_30 : decode cX1_judgeStart 30 = .ok (.iconst 1, 1) := by decide +kernel
theorem dX1_judgeStart_31 : decode cX1_judgeStart 31 = .ok (.invokevirtual 84, 3) := by decide +kernel
theorem dX1_judgeStart_34 : decode cX1_judgeStart 34 = .ok (.istore 5, 2) := by decide +kernel
theorem dX1_judgeStart_36 : decode cX1_judgeStart 36 = .ok (.iload 4, 2) := by decide +kernel
theorem dX1_judgeStart_38 : decode cX1_judgeStart 38 = .ok (.iconst 4, 1) := by decide +kernel
theorem dX1_judgeStart_39 : decode cX1_judgeStart 39 = .ok (.ishl, 1) := by decide +kernel
theorem dX1_judgeStart_40 : decode cX1_judgeStart 40 = .ok (.iload 5, 2) := by decide +kernel
theorem dX1_judgeStart_42 : decode cX1_judgeStart 42 = .ok (.ior, 1) := by decide +kernel
theorem dX1_judgeStart_43 : decode cX1_judgeStart 43 = .ok (.istore 6, 2) := by decide +kernel
theorem dX1_judgeStart_45 : decode cX1_judgeStart 45 = .ok (.iconst 0, 1) := by decide +kernel
theorem dX1_judgeStart_46 : decode cX1_judgeStart 46 = .ok (.iload 6, 2) := by decide +kernel
theorem dX1_judgeStart_48 : decode cX1_judgeStart 48 = .ok (.sipush 255, 3) := by decide +kernel
theorem dX1_judgeStart_51 : decode cX1_judgeStart 51 = .ok (.invokestatic 111, 3) := by decide +kernel
theorem dX1_judgeStart_54 : decode cX1_judgeStart 54 = .ok (.ifCond .ne 4, 3) := by decide +kernel
theorem dX1_judgeStart_57 : decode cX1_judgeStart 57 = .ok (.return_, 1) := by decide +kernel
theorem dX1_judgeStart_58 : decode cX1_judgeStart 58 = .ok (.aload_n 0, 1) := by decide +kernel
theorem dX1_judgeStart_59 : decode cX1_judgeStart 59 = .ok (.getfield 17, 3) := by decide +kernel
theorem dX1_judgeStart_62 : decode cX1_judgeStart 62 = .ok (.iload 6, 2) := by decide +kernel
theorem dX1_judgeStart_64 : decode cX1_judgeStart 64 = .ok (.iaload, 1) := by decide +kernel
theorem dX1_judgeStart_65 : decode cX1_judgeStart 65 = .ok (.iconst (-1), 1) := by decide +kernel
theorem dX1_judgeStart_66 : decode cX1_judgeStart 66 = .ok (.if_icmp .ne 19, 3) := by decide +kernel
theorem dX1_judgeStart_69 : decode cX1_judgeStart 69 = .ok (.aload_n 0, 1) := by decide +kernel
theorem dX1_judgeStart_70 : decode cX1_judgeStart 70 = .ok (.getfield 17, 3) := by decide +kernel
theorem dX1_judgeStart_73 : decode cX1_judgeStart 73 = .ok (.iload 6, 2) := by decide +kernel
theorem dX1_judgeStart_75 : decode cX1_judgeStart 75 = .ok (.aload_n 0, 1) := by decide +kernel
theorem dX1_judgeStart_76 : decode cX1_judgeStart 76 = .ok (.iload 4, 2) := by decide +kernel
theorem dX1_judgeStart_78 : decode cX1_judgeStart 78 = .ok (.iload 5, 2) := by decide +kernel
theorem dX1_judgeStart_80 : decode cX1_judgeStart 80 = .ok (.iload_n 2, 1) := by decide +kernel
theorem dX1_judgeStart_81 : decode cX1_judgeStart 81 = .ok (.invokevirtual 115, 3) := by decide +kernel
theorem dX1_judgeStart_84 : decode cX1_judgeStart 84 = .ok (.iastore, 1) := by decide +kernel
theorem dX1_judgeStart_85 : decode cX1_judgeStart 85 = .ok (.aload_n 0, 1) := by decide +kernel
theorem dX1_judgeStart_86 : decode cX1_judgeStart 86 = .ok (.iload 4, 2) := by decide +kernel
theorem dX1_judgeStart_88 : decode cX1_judgeStart 88 = .ok (.iload 5, 2) := by decide +kernel
theorem dX1_judgeStart_90 : decode cX1_judgeStart 90 = .ok (.aload_n 0, 1) := by decide +kernel
theorem dX1_judgeStart_91 : decode cX1_judgeStart 91 = .ok (.getfield 17, 3) := by decide +kernel
theorem dX1_judgeStart_94 : decode cX1_judgeStart 94 = .ok (.iload 6, 2) := by decide +kernel
theorem dX1_judgeStart_96 : decode cX1_judgeStart 96 = .ok (.iaload, 1) := by decide +kernel
theorem dX1_judgeStart_97 : decode cX1_judgeStart 97 = .ok (.invokevirtual 87, 3) := by decide +kernel
theorem dX1_judgeStart_100 : decode cX1_judgeStart 100 = .ok (.istore 7, 2) := by decide +kernel
theorem dX1_judgeStart_102 : decode cX1_judgeStart 102 = .ok (.iload_n 3, 1) := by decide +kernel
theorem dX1_judgeStart_103 : decode cX1_judgeStart 103 = .ok (.bipush 100, 2) := by decide +kernel
theorem dX1_judgeStart_105 : decode cX1_judgeStart 105 = .ok (.aload_n 0, 1) := by decide +kernel
theorem dX1_judgeStart_106 : decode cX1_judgeStart 106 = .ok (.getfield 20, 3) := by decide +kernel
theorem dX1_judgeStart_109 : decode cX1_judgeStart 109 = .ok (.getfield 90, 3) := by decide +kernel
theorem dX1_judgeStart_112 : decode cX1_judgeStart 112 = .ok (.iload 7, 2) := by decide +kernel
theorem dX1_judgeStart_114 : decode cX1_judgeStart 114 = .ok (.invokestatic 118, 3) := by decide +kernel
theorem dX1_judgeStart_117 : decode cX1_judgeStart 117 = .ok (.isub, 1) := by decide +kernel
theorem dX1_judgeStart_118 : decode cX1_judgeStart 118 = .ok (.imul, 1) := by decide +kernel
theorem dX1_judgeStart_119 : decode cX1_judgeStart 119 = .ok (.iadd, 1) := by decide +kernel
theorem dX1_judgeStart_120 : decode cX1_judgeStart 120 = .ok (.istore 8, 2) := by decide +kernel
theorem dX1_judgeStart_122 : decode cX1_judgeStart 122 = .ok (.iload 8, 2) := by decide +kernel
theorem dX1_judgeStart_124 : decode cX1_judgeStart 124 = .ok (.aload_n 0, 1) := by decide +kernel
theorem dX1_judgeStart_125 : decode cX1_judgeStart 125 = .ok (.getfield 97, 3) := by decide +kernel
theorem dX1_judgeStart_128 : decode cX1_judgeStart 128 = .ok (.if_icmp .ge 25, 3) := by decide +kernel
theorem dX1_judgeStart_131 : decode cX1_judgeStart 131 = .ok (.aload_n 0, 1) := by decide +kernel
theorem dX1_judgeStart_132 : decode cX1_judgeStart 132 = .ok (.iload_n 1, 1) := by decide +kernel
theorem dX1_judgeStart_133 : decode cX1_judgeStart 133 = .ok (.putfield 123, 3) := by decide +kernel
theorem dX1_judgeStart_136 : decode cX1_judgeStart 136 = .ok (.aload_n 0, 1) := by decide +kernel
theorem dX1_judgeStart_137 : decode cX1_judgeStart 137 = .ok (.aload_n 0, 1) := by decide +kernel
theorem dX1_judgeStart_138 : decode cX1_judgeStart 138 = .ok (.getfield 17, 3) := by decide +kernel
theorem dX1_judgeStart_141 : decode cX1_judgeStart 141 = .ok (.iload 6, 2) := by decide +kernel
theorem dX1_judgeStart_143 : decode cX1_judgeStart 143 = .ok (.iaload, 1) := by decide +kernel
theorem dX1_judgeStart_144 : decode cX1_judgeStart 144 = .ok (.putfield 126, 3) := by decide +kernel
theorem dX1_judgeStart_147 : decode cX1_judgeStart 147 = .ok (.aload_n 0, 1) := by decide +kernel
theorem dX1_judgeStart_148 : decode cX1_judgeStart 148 = .ok (.iload 8, 2) := by decide +kernel
theorem dX1_judgeStart_150 : decode cX1_judgeStart 150 = .ok (.putfield 97, 3) := by decide +kernel
theorem dX1_judgeStart_153 : decode cX1_judgeStart 153 = .ok (.return_, 1) := by decide +kernel
theorem dX1_firstBest_0 : decode cX1_firstBest 0 = .ok (.iconst 0, 1) := by decide +kernel
theorem dX1_firstBest_1 : decode cX1_firstBest 1 = .ok (.istore 4, 2) := by decide +kernel
theorem dX1_firstBest_3 : decode cX1_firstBest 3 = .ok (.iconst 0, 1) := by decide +kernel
theorem dX1_firstBest_4 : decode cX1_firstBest 4 = .ok (.istore 5, 2) := by decide +kernel
theorem dX1_firstBest_6 : decode cX1_firstBest 6 = .ok (.iconst 0, 1) := by decide +kernel
theorem dX1_firstBest_7 : decode cX1_firstBest 7 = .ok (.istore 6, 2) := by decide +kernel
theorem dX1_firstBest_9 : decode cX1_firstBest 9 = .ok (.iload 6, 2) := by decide +kernel
theorem dX1_firstBest_11 : decode cX1_firstBest 11 = .ok (.aload_n 0, 1) := by decide +kernel
theorem dX1_firstBest_12 : decode cX1_firstBest 12 = .ok (.getfield 24, 3) := by decide +kernel
theorem dX1_firstBest_15 : decode cX1_firstBest 15 = .ok (.getfield 59, 3) := by decide +kernel
theorem dX1_firstBest_18 : decode cX1_firstBest 18 = .ok (.if_icmp .ge 44, 3) := by decide +kernel
theorem dX1_firstBest_21 : decode cX1_firstBest 21 = .ok (.iload_n 3, 1) := by decide +kernel
theorem dX1_firstBest_22 : decode cX1_firstBest 22 = .ok (.ifCond .le 40, 3) := by decide +kernel
theorem dX1_firstBest_25 : decode cX1_firstBest 25 = .ok (.aload_n 0, 1) := by decide +kernel
theorem dX1_firstBest_26 : decode cX1_firstBest 26 = .ok (.iload_n 1, 1) := by decide +kernel
theorem dX1_firstBest_27 : decode cX1_firstBest 27 = .ok (.iload_n 2, 1) := by decide +kernel
theorem dX1_firstBest_28 : decode cX1_firstBest 28 = .ok (.iload 6, 2) := by decide +kernel
theorem dX1_firstBest_30 : decode cX1_firstBest 30 = .ok (.invokevirtual 87, 3) := by decide +kernel
theorem dX1_firstBest_33 : decode cX1_firstBest 33 = .ok (.invokestatic 118, 3) := by decide +kernel
theorem dX1_firstBest_36 : decode cX1_firstBest 36 = .ok (.istore 7, 2) := by decide +kernel
theorem dX1_firstBest_38 : decode cX1_firstBest 38 = .ok (.iload 7, 2) := by decide +kernel
theorem dX1_firstBest_40 : decode cX1_firstBest 40 = .ok (.iload 5, 2) := by decide +kernel
theorem dX1_firstBest_42 : decode cX1_firstBest 42 = .ok (.if_icmp .le 11, 3) := by decide +kernel
theorem dX1_firstBest_45 : decode cX1_firstBest 45 = .ok (.iload 6, 2) := by decide +kernel
theorem dX1_firstBest_47 : decode cX1_firstBest 47 = .ok (.istore 4, 2) := by decide +kernel
theorem dX1_firstBest_49 : decode cX1_firstBest 49 = .ok (.iload 7, 2) := by decide +kernel
theorem dX1_firstBest_51 : decode cX1_firstBest 51 = .ok (.istore 5, 2) := by decide +kernel
theorem dX1_firstBest_53 : decode cX1_firstBest 53 = .ok (.iload 6, 2) := by decide +kernel
theorem dX1_firstBest_55 : decode cX1_firstBest 55 = .ok (.iload_n 3, 1) := by decide +kernel
theorem dX1_firstBest_56 : decode cX1_firstBest 56 = .ok (.iadd, 1) := by decide +kernel
theorem dX1_firstBest_57 : decode cX1_firstBest 57 = .ok (.istore 6, 2) := by decide +kernel
theorem dX1_firstBest_59 : decode cX1_firstBest 59 = .ok (.goto (-50), 3) := by decide +kernel
theorem dX1_firstBest_62 : decode cX1_firstBest 62 = .ok (.iload 4, 2) := by decide +kernel
theorem dX1_firstBest_64 : decode cX1_firstBest 64 = .ok (.ireturn, 1) := by decide +kernel
theorem dX1_standsWithin_0 : decode cX1_standsWithin 0 = .ok (.iconst 0, 1) := by decide +kernel
theorem dX1_standsWithin_1 : decode cX1_standsWithin 1 = .ok (.istore_n 3, 1) := by decide +kernel
theorem dX1_standsWithin_2 : decode cX1_standsWithin 2 = .ok (.iconst 0, 1) := by decide +kernel
theorem dX1_standsWithin_3 : decode cX1_standsWithin 3 = .ok (.istore 4, 2) := by decide +kernel
theorem dX1_standsWithin_5 : decode cX1_standsWithin 5 = .ok (.iload 4, 2) := by decide +kernel
theorem dX1_standsWithin_7 : decode cX1_standsWithin 7 = .ok (.aload_n 0, 1) := by decide +kernel
theorem dX1_standsWithin_8 : decode cX1_standsWithin 8 = .ok (.getfield 20, 3) := by decide +kernel
theorem dX1_standsWithin_11 : decode cX1_standsWithin 11 = .ok (.getfield 90, 3) := by decide +kernel
theorem dX1_standsWithin_14 : decode cX1_standsWithin 14 = .ok (.if_icmp .ge 129, 3) := by decide +kernel
theorem dX1_standsWithin_17 : decode cX1_standsWithin 17 = .ok (.aload_n 0, 1) := by decide +kernel
theorem dX1_standsWithin_18 : decode cX1_standsWithin 18 = .ok (.getfield 20, 3) := by decide +kernel
theorem dX1_standsWithin_21 : decode cX1_standsWithin 21 = .ok (.iload 4, 2) := by decide +kernel
theorem dX1_standsWithin_23 : decode cX1_standsWithin 23 = .ok (.invokevirtual 129, 3) := by decide +kernel
theorem dX1_standsWithin_26 : decode cX1_standsWithin 26 = .ok (.iload_n 1, 1) := by decide +kernel
theorem dX1_standsWithin_27 : decode cX1_standsWithin 27 = .ok (.isub, 1) := by decide +kernel
theorem dX1_standsWithin_28 : decode cX1_standsWithin 28 = .ok (.aload_n 0, 1) := by decide +kernel
theorem dX1_standsWithin_29 : decode cX1_standsWithin 29 = .ok (.getfield 38, 3) := by decide +kernel
theorem dX1_standsWithin_32 : decode cX1_standsWithin 32 = .ok (.invokestatic 44, 3) := by decide +kernel
theorem dX1_standsWithin_35 : decode cX1_standsWithin 35 = .ok (.istore 5, 2) := by decide +kernel
theorem dX1_standsWithin_37 : decode cX1_standsWithin 37 = .ok (.iload 5, 2) := by decide +kernel
theorem dX1_standsWithin_39 : decode cX1_standsWithin 39 = .ok (.aload_n 0, 1) := by decide +kernel
theorem dX1_standsWithin_40 : decode cX1_standsWithin 40 = .ok (.getfield 24, 3) := by decide +kernel
theorem dX1_standsWithin_43 : decode cX1_standsWithin 43 = .ok (.getfield 39, 3) := by decide +kernel
theorem dX1_standsWithin_46 : decode cX1_standsWithin 46 = .ok (.invokestatic 44, 3) := by decide +kernel
theorem dX1_standsWithin_49 : decode cX1_standsWithin 49 = .ok (.istore 6, 2) := by decide +kernel
theorem dX1_standsWithin_51 : decode cX1_standsWithin 51 = .ok (.iload 5, 2) := by decide +kernel
theorem dX1_standsWithin_53 : decode cX1_standsWithin 53 = .ok (.iload 6, 2) := by decide +kernel
theorem dX1_standsWithin_55 : decode cX1_standsWithin 55 = .ok (.isub, 1) := by decide +kernel
theorem dX1_standsWithin_56 : decode cX1_standsWithin 56 = .ok (.istore 7, 2) := by decide +kernel
theorem dX1_standsWithin_58 : decode cX1_standsWithin 58 = .ok (.aload_n 0, 1) := by decide +kernel
theorem dX1_standsWithin_59 : decode cX1_standsWithin 59 = .ok (.getfield 24, 3) := by decide +kernel
theorem dX1_standsWithin_62 : decode cX1_standsWithin 62 = .ok (.getfield 39, 3) := by decide +kernel
theorem dX1_standsWithin_65 : decode cX1_standsWithin 65 = .ok (.aload_n 0, 1) := by decide +kernel
theorem dX1_standsWithin_66 : decode cX1_standsWithin 66 = .ok (.getfield 38, 3) := by decide +kernel
theorem dX1_standsWithin_69 : decode cX1_standsWithin 69 = .ok (.iload 7, 2) := by decide +kernel
theorem dX1_standsWithin_71 : decode cX1_standsWithin 71 = .ok (.isub, 1) := by decide +kernel
theorem dX1_standsWithin_72 : decode cX1_standsWithin 72 = .ok (.invokestatic 132, 3) := by decide +kernel
theorem dX1_standsWithin_75 : decode cX1_standsWithin 75 = .ok (.iload 6, 2) := by decide +kernel
theorem dX1_standsWithin_77 : decode cX1_standsWithin 77 = .ok (.isub, 1) := by decide +kernel
theorem dX1_standsWithin_78 : decode cX1_standsWithin 78 = .ok (.istore 8, 2) := by decide +kernel
theorem dX1_standsWithin_80 : decode cX1_standsWithin 80 = .ok (.iload 6, 2) := by decide +kernel
theorem dX1_standsWithin_82 : decode cX1_standsWithin 82 = .ok (.iconst 5, 1) := by decide +kernel
theorem dX1_standsWithin_83 : decode cX1_standsWithin 83 = .ok (.if_icmp .lt 13, 3) := by decide +kernel
theorem dX1_standsWithin_86 : decode cX1_standsWithin 86 = .ok (.iload 8, 2) := by decide +kernel
theorem dX1_standsWithin_88 : decode cX1_standsWithin 88 = .ok (.iconst 5, 1) := by decide +kernel
theorem dX1_standsWithin_89 : decode cX1_standsWithin 89 = .ok (.if_icmp .lt 7, 3) := by decide +kernel
theorem dX1_standsWithin_92 : decode cX1_standsWithin 92 = .ok (.iconst 1, 1) := by decide +kernel
theorem dX1_standsWithin_93 : decode cX1_standsWithin 93 = .ok (.goto 4, 3) := by decide +kernel
