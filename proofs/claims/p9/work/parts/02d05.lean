theorem dX10_add_47 : decode cX10_add 47 = .ok (.aload_n 0, 1) := by decide +kernel
theorem dX10_add_48 : decode cX10_add 48 = .ok (.getfield 29, 3) := by decide +kernel
theorem dX10_add_51 : decode cX10_add 51 = .ok (.iload_n 3, 1) := by decide +kernel
theorem dX10_add_52 : decode cX10_add 52 = .ok (.iastore, 1) := by decide +kernel
theorem dX10_add_53 : decode cX10_add 53 = .ok (.aload_n 0, 1) := by decide +kernel
theorem dX10_add_54 : decode cX10_add 54 = .ok (.getfield 22, 3) := by decide +kernel
theorem dX10_add_57 : decode cX10_add 57 = .ok (.aload_n 0, 1) := by decide +kernel
theorem dX10_add_58 : decode cX10_add 58 = .ok (.getfield 29, 3) := by decide +kernel
theorem dX10_add_61 : decode cX10_add 61 = .ok (.iconst 0, 1) := by decide +kernel
theorem dX10_add_62 : decode cX10_add 62 = .ok (.iastore, 1) := by decide +kernel
theorem dX10_add_63 : decode cX10_add 63 = .ok (.aload_n 0, 1) := by decide +kernel
theorem dX10_add_64 : decode cX10_add 64 = .ok (.getfield 25, 3) := by decide +kernel
theorem dX10_add_67 : decode cX10_add 67 = .ok (.aload_n 0, 1) := by decide +kernel
theorem dX10_add_68 : decode cX10_add 68 = .ok (.getfield 29, 3) := by decide +kernel
theorem dX10_add_71 : decode cX10_add 71 = .ok (.iconst 0, 1) := by decide +kernel
theorem dX10_add_72 : decode cX10_add 72 = .ok (.bastore, 1) := by decide +kernel
theorem dX10_add_73 : decode cX10_add 73 = .ok (.aload_n 0, 1) := by decide +kernel
theorem dX10_add_74 : decode cX10_add 74 = .ok (.dup, 1) := by decide +kernel
theorem dX10_add_75 : decode cX10_add 75 = .ok (.getfield 29, 3) := by decide +kernel
theorem dX10_add_78 : decode cX10_add 78 = .ok (.iconst 1, 1) := by decide +kernel
theorem dX10_add_79 : decode cX10_add 79 = .ok (.iadd, 1) := by decide +kernel
theorem dX10_add_80 : decode cX10_add 80 = .ok (.putfield 29, 3) := by decide +kernel
theorem dX10_add_83 : decode cX10_add 83 = .ok (.aload_n 0, 1) := by decide +kernel
theorem dX10_add_84 : decode cX10_add 84 = .ok (.dup, 1) := by decide +kernel
theorem dX10_add_85 : decode cX10_add 85 = .ok (.getfield 33, 3) := by decide +kernel
theorem dX10_add_88 : decode cX10_add 88 = .ok (.iload_n 1, 1) := by decide +kernel
theorem dX10_add_89 : decode cX10_add 89 = .ok (.iadd, 1) := by decide +kernel
theorem dX10_add_90 : decode cX10_add 90 = .ok (.putfield 33, 3) := by decide +kernel
theorem dX10_add_93 : decode cX10_add 93 = .ok (.return_, 1) := by decide +kernel
theorem dX10_lean_0 : decode cX10_lean 0 = .ok (.aload_n 0, 1) := by decide +kernel
theorem dX10_lean_1 : decode cX10_lean 1 = .ok (.iload_n 1, 1) := by decide +kernel
theorem dX10_lean_2 : decode cX10_lean 2 = .ok (.invokevirtual 36, 3) := by decide +kernel
theorem dX10_lean_5 : decode cX10_lean 5 = .ok (.ifCond .eq 17, 3) := by decide +kernel
theorem dX10_lean_8 : decode cX10_lean 8 = .ok (.aload_n 0, 1) := by decide +kernel
theorem dX10_lean_9 : decode cX10_lean 9 = .ok (.getfield 22, 3) := by decide +kernel
theorem dX10_lean_12 : decode cX10_lean 12 = .ok (.iload_n 1, 1) := by decide +kernel
theorem dX10_lean_13 : decode cX10_lean 13 = .ok (.iload_n 2, 1) := by decide +kernel
theorem dX10_lean_14 : decode cX10_lean 14 = .ok (.iastore, 1) := by decide +kernel
theorem dX10_lean_15 : decode cX10_lean 15 = .ok (.aload_n 0, 1) := by decide +kernel
theorem dX10_lean_16 : decode cX10_lean 16 = .ok (.getfield 25, 3) := by decide +kernel
theorem dX10_lean_19 : decode cX10_lean 19 = .ok (.iload_n 1, 1) := by decide +kernel
theorem dX10_lean_20 : decode cX10_lean 20 = .ok (.iconst 1, 1) := by decide +kernel
theorem dX10_lean_21 : decode cX10_lean 21 = .ok (.bastore, 1) := by decide +kernel
theorem dX10_lean_22 : decode cX10_lean 22 = .ok (.return_, 1) := by decide +kernel
theorem dX10_has_0 : decode cX10_has 0 = .ok (.iload_n 1, 1) := by decide +kernel
theorem dX10_has_1 : decode cX10_has 1 = .ok (.ifCond .lt 15, 3) := by decide +kernel
theorem dX10_has_4 : decode cX10_has 4 = .ok (.iload_n 1, 1) := by decide +kernel
theorem dX10_has_5 : decode cX10_has 5 = .ok (.aload_n 0, 1) := by decide +kernel
theorem dX10_has_6 : decode cX10_has 6 = .ok (.getfield 29, 3) := by decide +kernel
theorem dX10_has_9 : decode cX10_has 9 = .ok (.if_icmp .ge 7, 3) := by decide +kernel
theorem dX10_has_12 : decode cX10_has 12 = .ok (.iconst 1, 1) := by decide +kernel
theorem dX10_has_13 : decode cX10_has 13 = .ok (.goto 4, 3) := by decide +kernel
theorem dX10_has_16 : decode cX10_has 16 = .ok (.iconst 0, 1) := by decide +kernel
theorem dX10_has_17 : decode cX10_has 17 = .ok (.ireturn, 1) := by decide +kernel
theorem dX10_leansAt_0 : decode cX10_leansAt 0 = .ok (.aload_n 0, 1) := by decide +kernel
theorem dX10_leansAt_1 : decode cX10_leansAt 1 = .ok (.iload_n 1, 1) := by decide +kernel
theorem dX10_leansAt_2 : decode cX10_leansAt 2 = .ok (.invokevirtual 36, 3) := by decide +kernel
theorem dX10_leansAt_5 : decode cX10_leansAt 5 = .ok (.ifCond .eq 16, 3) := by decide +kernel
theorem dX10_leansAt_8 : decode cX10_leansAt 8 = .ok (.aload_n 0, 1) := by decide +kernel
theorem dX10_leansAt_9 : decode cX10_leansAt 9 = .ok (.getfield 25, 3) := by decide +kernel
theorem dX10_leansAt_12 : decode cX10_leansAt 12 = .ok (.iload_n 1, 1) := by decide +kernel
theorem dX10_leansAt_13 : decode cX10_leansAt 13 = .ok (.baload, 1) := by decide +kernel
theorem dX10_leansAt_14 : decode cX10_leansAt 14 = .ok (.ifCond .eq 7, 3) := by decide +kernel
theorem dX10_leansAt_17 : decode cX10_leansAt 17 = .ok (.iconst 1, 1) := by decide +kernel
theorem dX10_leansAt_18 : decode cX10_leansAt 18 = .ok (.goto 4, 3) := by decide +kernel
theorem dX10_leansAt_21 : decode cX10_leansAt 21 = .ok (.iconst 0, 1) := by decide +kernel
theorem dX10_leansAt_22 : decode cX10_leansAt 22 = .ok (.ireturn, 1) := by decide +kernel
theorem dX10_beginOf_0 : decode cX10_beginOf 0 = .ok (.aload_n 0, 1) := by decide +kernel
theorem dX10_beginOf_1 : decode cX10_beginOf 1 = .ok (.iload_n 1, 1) := by decide +kernel
theorem dX10_beginOf_2 : decode cX10_beginOf 2 = .ok (.invokevirtual 36, 3) := by decide +kernel
theorem dX10_beginOf_5 : decode cX10_beginOf 5 = .ok (.ifCond .eq 12, 3) := by decide +kernel
theorem dX10_beginOf_8 : decode cX10_beginOf 8 = .ok (.aload_n 0, 1) := by decide +kernel
theorem dX10_beginOf_9 : decode cX10_beginOf 9 = .ok (.getfield 9, 3) := by decide +kernel
theorem dX10_beginOf_12 : decode cX10_beginOf 12 = .ok (.iload_n 1, 1) := by decide +kernel
theorem dX10_beginOf_13 : decode cX10_beginOf 13 = .ok (.iaload, 1) := by decide +kernel
theorem dX10_beginOf_14 : decode cX10_beginOf 14 = .ok (.goto 4, 3) := by decide +kernel
theorem dX10_beginOf_17 : decode cX10_beginOf 17 = .ok (.iconst 0, 1) := by decide +kernel
theorem dX10_beginOf_18 : decode cX10_beginOf 18 = .ok (.ireturn, 1) := by decide +kernel
theorem dX10_lengthOf_0 : decode cX10_lengthOf 0 = .ok (.aload_n 0, 1) := by decide +kernel
theorem dX10_lengthOf_1 : decode cX10_lengthOf 1 = .ok (.iload_n 1, 1) := by decide +kernel
theorem dX10_lengthOf_2 : decode cX10_lengthOf 2 = .ok (.invokevirtual 36, 3) := by decide +kernel
theorem dX10_lengthOf_5 : decode cX10_lengthOf 5 = .ok (.ifCond .eq 12, 3) := by decide +kernel
theorem dX10_lengthOf_8 : decode cX10_lengthOf 8 = .ok (.aload_n 0, 1) := by decide +kernel
theorem dX10_lengthOf_9 : decode cX10_lengthOf 9 = .ok (.getfield 13, 3) := by decide +kernel
theorem dX10_lengthOf_12 : decode cX10_lengthOf 12 = .ok (.iload_n 1, 1) := by decide +kernel
theorem dX10_lengthOf_13 : decode cX10_lengthOf 13 = .ok (.iaload, 1) := by decide +kernel
theorem dX10_lengthOf_14 : decode cX10_lengthOf 14 = .ok (.goto 4, 3) := by decide +kernel
theorem dX10_lengthOf_17 : decode cX10_lengthOf 17 = .ok (.iconst 0, 1) := by decide +kernel
theorem dX10_lengthOf_18 : decode cX10_lengthOf 18 = .ok (.ireturn, 1) := by decide +kernel
theorem dX10_lesserHeightOf_0 : decode cX10_lesserHeightOf 0 = .ok (.aload_n 0, 1) := by decide +kernel
theorem dX10_lesserHeightOf_1 : decode cX10_lesserHeightOf 1 = .ok (.iload_n 1, 1) := by decide +kernel
theorem dX10_lesserHeightOf_2 : decode cX10_lesserHeightOf 2 = .ok (.invokevirtual 36, 3) := by decide +kernel
theorem dX10_lesserHeightOf_5 : decode cX10_lesserHeightOf 5 = .ok (.ifCond .eq 21, 3) := by decide +kernel
theorem dX10_lesserHeightOf_8 : decode cX10_lesserHeightOf 8 = .ok (.aload_n 0, 1) := by decide +kernel
theorem dX10_lesserHeightOf_9 : decode cX10_lesserHeightOf 9 = .ok (.getfield 16, 3) := by decide +kernel
theorem dX10_lesserHeightOf_12 : decode cX10_lesserHeightOf 12 = .ok (.iload_n 1, 1) := by decide +kernel
theorem dX10_lesserHeightOf_13 : decode cX10_lesserHeightOf 13 = .ok (.iaload, 1) := by decide +kernel
theorem dX10_lesserHeightOf_14 : decode cX10_lesserHeightOf 14 = .ok (.aload_n 0, 1) := by decide +kernel
theorem dX10_lesserHeightOf_15 : decode cX10_lesserHeightOf 15 = .ok (.getfield 19, 3) := by decide +kernel
theorem dX10_lesserHeightOf_18 : decode cX10_lesserHeightOf 18 = .ok (.iload_n 1, 1) := by decide +kernel
theorem dX10_lesserHeightOf_19 : decode cX10_lesserHeightOf 19 = .ok (.iaload, 1) := by decide +kernel
theorem dX10_lesserHeightOf_20 : decode cX10_lesserHeightOf 20 = .ok (.invokestatic 40, 3) := by decide +kernel
theorem dX10_lesserHeightOf_23 : decode cX10_lesserHeightOf 23 = .ok (.goto 4, 3) := by decide +kernel
theorem dX10_lesserHeightOf_26 : decode cX10_lesserHeightOf 26 = .ok (.iconst 0, 1) := by decide +kernel
theorem dX10_lesserHeightOf_27 : decode cX10_lesserHeightOf 27 = .ok (.ireturn, 1) := by decide +kernel
theorem dX10_rightOf_0 : decode cX10_rightOf 0 = .ok (.iload_n 1, 1) := by decide +kernel
theorem dX10_rightOf_1 : decode cX10_rightOf 1 = .ok (.iconst 1, 1) := by decide +kernel
theorem dX10_rightOf_2 : decode cX10_rightOf 2 = .ok (.iadd, 1) := by decide +kernel
theorem dX10_rightOf_3 : decode cX10_rightOf 3 = .ok (.aload_n 0, 1) := by decide +kernel
theorem dX10_rightOf_4 : decode cX10_rightOf 4 = .ok (.getfield 29, 3) := by decide +kernel
theorem dX10_rightOf_7 : decode cX10_rightOf 7 = .ok (.if_icmp .ge 9, 3) := by decide +kernel
theorem dX10_rightOf_10 : decode cX10_rightOf 10 = .ok (.iload_n 1, 1) := by decide +kernel
theorem dX10_rightOf_11 : decode cX10_rightOf 11 = .ok (.iconst 1, 1) := by decide +kernel
theorem dX10_rightOf_12 : decode cX10_rightOf 12 = .ok (.iadd, 1) := by decide +kernel
theorem dX10_rightOf_13 : decode cX10_rightOf 13 = .ok (.goto 4, 3) := by decide +kernel
theorem dX10_rightOf_16 : decode cX10_rightOf 16 = .ok (.iconst 0, 1) := by decide +kernel
theorem dX10_rightOf_17 : decode cX10_rightOf 17 = .ok (.ireturn, 1) := by decide +kernel
theorem dX10_wallAt_0 : decode cX10_wallAt 0 = .ok (.iconst 0, 1) := by decide +kernel
theorem dX10_wallAt_1 : decode cX10_wallAt 1 = .ok (.istore_n 2, 1) := by decide +kernel
theorem dX10_wallAt_2 : decode cX10_wallAt 2 = .ok (.iconst 1, 1) := by decide +kernel
theorem dX10_wallAt_3 : decode cX10_wallAt 3 = .ok (.istore_n 3, 1) := by decide +kernel
theorem dX10_wallAt_4 : decode cX10_wallAt 4 = .ok (.iload_n 3, 1) := by decide +kernel
theorem dX10_wallAt_5 : decode cX10_wallAt 5 = .ok (.aload_n 0, 1) := by decide +kernel
theorem dX10_wallAt_6 : decode cX10_wallAt 6 = .ok (.getfield 29, 3) := by decide +kernel
theorem dX10_wallAt_9 : decode cX10_wallAt 9 = .ok (.if_icmp .ge 21, 3) := by decide +kernel
theorem dX10_wallAt_12 : decode cX10_wallAt 12 = .ok (.aload_n 0, 1) := by decide +kernel
theorem dX10_wallAt_13 : decode cX10_wallAt 13 = .ok (.getfield 9, 3) := by decide +kernel
theorem dX10_wallAt_16 : decode cX10_wallAt 16 = .ok (.iload_n 3, 1) := by decide +kernel
theorem dX10_wallAt_17 : decode cX10_wallAt 17 = .ok (.iaload, 1) := by decide +kernel
theorem dX10_wallAt_18 : decode cX10_wallAt 18 = .ok (.iload_n 1, 1) := by decide +kernel
theorem dX10_wallAt_19 : decode cX10_wallAt 19 = .ok (.if_icmp .gt 5, 3) := by decide +kernel
theorem dX10_wallAt_22 : decode cX10_wallAt 22 = .ok (.iload_n 3, 1) := by decide +kernel
theorem dX10_wallAt_23 : decode cX10_wallAt 23 = .ok (.istore_n 2, 1) := by decide +kernel
theorem dX10_wallAt_24 : decode cX10_wallAt 24 = .ok (.iinc 3 1, 3) := by decide +kernel
theorem dX10_wallAt_27 : decode cX10_wallAt 27 = .ok (.goto (-23), 3) := by decide +kernel
theorem dX10_wallAt_30 : decode cX10_wallAt 30 = .ok (.iload_n 2, 1) := by decide +kernel
theorem dX10_wallAt_31 : decode cX10_wallAt 31 = .ok (.ireturn, 1) := by decide +kernel
theorem dX10_tallestEndBetween_0 : decode cX10_tallestEndBetween 0 = .ok (.iconst 0, 1) := by decide +kernel
theorem dX10_tallestEndBetween_1 : decode cX10_tallestEndBetween 1 = .ok (.istore_n 3, 1) := by decide +kernel
theorem dX10_tallestEndBetween_2 : decode cX10_tallestEndBetween 2 = .ok (.aload_n 0, 1) := by decide +kernel
theorem dX10_tallestEndBetween_3 : decode cX10_tallestEndBetween 3 = .ok (.getfield 29, 3) := by decide +kernel
theorem dX10_tallestEndBetween_6 : decode cX10_tallestEndBetween 6 = .ok (.iconst 1, 1) := by decide +kernel
theorem dX10_tallestEndBetween_7 : decode cX10_tallestEndBetween 7 = .ok (.isub, 1) := by decide +kernel
theorem dX10_tallestEndBetween_8 : decode cX10_tallestEndBetween 8 = .ok (.istore 4, 2) := by decide +kernel
theorem dX10_tallestEndBetween_10 : decode cX10_tallestEndBetween 10 = .ok (.iconst 0, 1) := by decide +kernel
theorem dX10_tallestEndBetween_11 : decode cX10_tallestEndBetween 11 = .ok (.istore 5, 2) := by decide +kernel
theorem dX10_tallestEndBetween_13 : decode cX10_tallestEndBetween 13 = .ok (.iload 5, 2) := by decide +kernel
theorem dX10_tallestEndBetween_15 : decode cX10_tallestEndBetween 15 = .ok (.aload_n 0, 1) := by decide +kernel
theorem dX10_tallestEndBetween_16 : decode cX10_tallestEndBetween 16 = .ok (.getfield 29, 3) := by decide +kernel
theorem dX10_tallestEndBetween_19 : decode cX10_tallestEndBetween 19 = .ok (.if_icmp .ge 78, 3) := by decide +kernel
theorem dX10_tallestEndBetween_22 : decode cX10_tallestEndBetween 22 = .ok (.aload_n 0, 1) := by decide +kernel
theorem dX10_tallestEndBetween_23 : decode cX10_tallestEndBetween 23 = .ok (.getfield 9, 3) := by decide +kernel
theorem dX10_tallestEndBetween_26 : decode cX10_tallestEndBetween 26 = .ok (.iload 5, 2) := by decide +kernel
theorem dX10_tallestEndBetween_28 : decode cX10_tallestEndBetween 28 = .ok (.iaload, 1) := by decide +kernel
theorem dX10_tallestEndBetween_29 : decode cX10_tallestEndBetween 29 = .ok (.istore 6, 2) := by decide +kernel
theorem dX10_tallestEndBetween_31 : decode cX10_tallestEndBetween 31 = .ok (.iload 6, 2) := by decide +kernel
theorem dX10_tallestEndBetween_33 : decode cX10_tallestEndBetween 33 = .ok (.iload_n 1, 1) := by decide +kernel
theorem dX10_tallestEndBetween_34 : decode cX10_tallestEndBetween 34 = .ok (.if_icmp .le 9, 3) := by decide +kernel
theorem dX10_tallestEndBetween_37 : decode cX10_tallestEndBetween 37 = .ok (.iload 6, 2) := by decide +kernel
theorem dX10_tallestEndBetween_39 : decode cX10_tallestEndBetween 39 = .ok (.iload_n 2, 1) := by decide +kernel
theorem dX10_tallestEndBetween_40 : decode cX10_tallestEndBetween 40 = .ok (.if_icmp .lt 25, 3) := by decide +kernel
theorem dX10_tallestEndBetween_43 : decode cX10_tallestEndBetween 43 = .ok (.iload 6, 2) := by decide +kernel
theorem dX10_tallestEndBetween_45 : decode cX10_tallestEndBetween 45 = .ok (.aload_n 0, 1) := by decide +kernel
theorem dX10_tallestEndBetween_46 : decode cX10_tallestEndBetween 46 = .ok (.getfield 33, 3) := by decide +kernel
theorem dX10_tallestEndBetween_49 : decode cX10_tallestEndBetween 49 = .ok (.iadd, 1) := by decide +kernel
theorem dX10_tallestEndBetween_50 : decode cX10_tallestEndBetween 50 = .ok (.iload_n 1, 1) := by decide +kernel
theorem dX10_tallestEndBetween_51 : decode cX10_tallestEndBetween 51 = .ok (.if_icmp .le 36, 3) := by decide +kernel
theorem dX10_tallestEndBetween_54 : decode cX10_tallestEndBetween 54 = .ok (.iload 6, 2) := by decide +kernel
theorem dX10_tallestEndBetween_56 : decode cX10_tallestEndBetween 56 = .ok (.aload_n 0, 1) := by decide +kernel
theorem dX10_tallestEndBetween_57 : decode cX10_tallestEndBetween 57 = .ok (.getfield 33, 3) := by decide +kernel
theorem dX10_tallestEndBetween_60 : decode cX10_tallestEndBetween 60 = .ok (.iadd, 1) := by decide +kernel
theorem dX10_tallestEndBetween_61 : decode cX10_tallestEndBetween 61 = .ok (.iload_n 2, 1) := by decide +kernel
theorem dX10_tallestEndBetween_62 : decode cX10_tallestEndBetween 62 = .ok (.if_icmp .ge 25, 3) := by decide +kernel
theorem dX10_tallestEndBetween_65 : decode cX10_tallestEndBetween 65 = .ok (.iload_n 3, 1) := by decide +kernel
theorem dX10_tallestEndBetween_66 : decode cX10_tallestEndBetween 66 = .ok (.aload_n 0, 1) := by decide +kernel
theorem dX10_tallestEndBetween_67 : decode cX10_tallestEndBetween 67 = .ok (.getfield 19, 3) := by decide +kernel
theorem dX10_tallestEndBetween_70 : decode cX10_tallestEndBetween 70 = .ok (.iload 4, 2) := by decide +kernel
theorem dX10_tallestEndBetween_72 : decode cX10_tallestEndBetween 72 = .ok (.iaload, 1) := by decide +kernel
theorem dX10_tallestEndBetween_73 : decode cX10_tallestEndBetween 73 = .ok (.aload_n 0, 1) := by decide +kernel
theorem dX10_tallestEndBetween_74 : decode cX10_tallestEndBetween 74 = .ok (.getfield 16, 3) := by decide +kernel
theorem dX10_tallestEndBetween_77 : decode cX10_tallestEndBetween 77 = .ok (.iload 5, 2) := by decide +kernel
theorem dX10_tallestEndBetween_79 : decode cX10_tallestEndBetween 79 = .ok (.iaload, 1) := by decide +kernel
theorem dX10_tallestEndBetween_80 : decode cX10_tallestEndBetween 80 = .ok (.invokestatic 59, 3) := by decide +kernel
theorem dX10_tallestEndBetween_83 : decode cX10_tallestEndBetween 83 = .ok (.invokestatic 59, 3) := by decide +kernel
theorem dX10_tallestEndBetween_86 : decode cX10_tallestEndBetween 86 = .ok (.istore_n 3, 1) := by decide +kernel
theorem dX10_tallestEndBetween_87 : decode cX10_tallestEndBetween 87 = .ok (.iload 5, 2) := by decide +kernel
theorem dX10_tallestEndBetween_89 : decode cX10_tallestEndBetween 89 = .ok (.istore 4, 2) := by decide +kernel
theorem dX10_tallestEndBetween_91 : decode cX10_tallestEndBetween 91 = .ok (.iinc 5 1, 3) := by decide +kernel
theorem dX10_tallestEndBetween_94 : decode cX10_tallestEndBetween 94 = .ok (.goto (-81), 3) := by decide +kernel
theorem dX10_tallestEndBetween_97 : decode cX10_tallestEndBetween 97 = .ok (.iload_n 3, 1) := by decide +kernel
theorem dX10_tallestEndBetween_98 : decode cX10_tallestEndBetween 98 = .ok (.ireturn, 1) := by decide +kernel
theorem dX10_runOf_0 : decode cX10_runOf 0 = .ok (.iconst 0, 1) := by decide +kernel
theorem dX10_runOf_1 : decode cX10_runOf 1 = .ok (.istore_n 3, 1) := by decide +kernel
theorem dX10_runOf_2 : decode cX10_runOf 2 = .ok (.iconst 0, 1) := by decide +kernel
theorem dX10_runOf_3 : decode cX10_runOf 3 = .ok (.istore 4, 2) := by decide +kernel
theorem dX10_runOf_5 : decode cX10_runOf 5 = .ok (.iload 4, 2) := by decide +kernel
theorem dX10_runOf_7 : decode cX10_runOf 7 = .ok (.iload_n 2, 1) := by decide +kernel
theorem dX10_runOf_8 : decode cX10_runOf 8 = .ok (.if_icmp .ge 40, 3) := by decide +kernel
theorem dX10_runOf_11 : decode cX10_runOf 11 = .ok (.iload 4, 2) := by decide +kernel
theorem dX10_runOf_13 : decode cX10_runOf 13 = .ok (.aload_n 0, 1) := by decide +kernel
theorem dX10_runOf_14 : decode cX10_runOf 14 = .ok (.getfield 29, 3) := by decide +kernel
theorem dX10_runOf_17 : decode cX10_runOf 17 = .ok (.if_icmp .ge 31, 3) := by decide +kernel
theorem dX10_runOf_20 : decode cX10_runOf 20 = .ok (.iload_n 1, 1) := by decide +kernel
theorem dX10_runOf_21 : decode cX10_runOf 21 = .ok (.iload 4, 2) := by decide +kernel
theorem dX10_runOf_23 : decode cX10_runOf 23 = .ok (.invokestatic 68, 3) := by decide +kernel
theorem dX10_runOf_26 : decode cX10_runOf 26 = .ok (.ifCond .eq 7, 3) := by decide +kernel
theorem dX10_runOf_29 : decode cX10_runOf 29 = .ok (.iconst 0, 1) := by decide +kernel
theorem dX10_runOf_30 : decode cX10_runOf 30 = .ok (.goto 11, 3) := by decide +kernel
theorem dX10_runOf_33 : decode cX10_runOf 33 = .ok (.iload_n 3, 1) := by decide +kernel
theorem dX10_runOf_34 : decode cX10_runOf 34 = .ok (.aload_n 0, 1) := by decide +kernel
theorem dX10_runOf_35 : decode cX10_runOf 35 = .ok (.iload 4, 2) := by decide +kernel
theorem dX10_runOf_37 : decode cX10_runOf 37 = .ok (.invokevirtual 72, 3) := by decide +kernel
theorem dX10_runOf_40 : decode cX10_runOf 40 = .ok (.iadd, 1) := by decide +kernel
theorem dX10_runOf_41 : decode cX10_runOf 41 = .ok (.istore_n 3, 1) := by decide +kernel
theorem dX10_runOf_42 : decode cX10_runOf 42 = .ok (.iinc 4 1, 3) := by decide +kernel
theorem dX10_runOf_45 : decode cX10_runOf 45 = .ok (.goto (-40), 3) := by decide +kernel
theorem dX10_runOf_48 : decode cX10_runOf 48 = .ok (.iload_n 3, 1) := by decide +kernel
theorem dX10_runOf_49 : decode cX10_runOf 49 = .ok (.ireturn, 1) := by decide +kernel
theorem dX10_shownWith_0 : decode cX10_shownWith 0 = .ok (.iconst 0, 1) := by decide +kernel
theorem dX10_shownWith_1 : decode cX10_shownWith 1 = .ok (.istore_n 2, 1) := by decide +kernel
theorem dX10_shownWith_2 : decode cX10_shownWith 2 = .ok (.iconst 0, 1) := by decide +kernel
theorem dX10_shownWith_3 : decode cX10_shownWith 3 = .ok (.istore_n 3, 1) := by decide +kernel
theorem dX10_shownWith_4 : decode cX10_shownWith 4 = .ok (.iconst 0, 1) := by decide +kernel
theorem dX10_shownWith_5 : decode cX10_shownWith 5 = .ok (.istore 4, 2) := by decide +kernel
theorem dX10_shownWith_7 : decode cX10_shownWith 7 = .ok (.iload 4, 2) := by decide +kernel
theorem dX10_shownWith_9 : decode cX10_shownWith 9 = .ok (.aload_n 0, 1) := by decide +kernel
theorem dX10_shownWith_10 : decode cX10_shownWith 10 = .ok (.getfield 29, 3) := by decide +kernel
theorem dX10_shownWith_13 : decode cX10_shownWith 13 = .ok (.iconst 1, 1) := by decide +kernel
theorem dX10_shownWith_14 : decode cX10_shownWith 14 = .ok (.isub, 1) := by decide +kernel
theorem dX10_shownWith_15 : decode cX10_shownWith 15 = .ok (.if_icmp .ge 45, 3) := by decide +kernel
theorem dX10_shownWith_18 : decode cX10_shownWith 18 = .ok (.iload_n 3, 1) := by decide +kernel
theorem dX10_shownWith_19 : decode cX10_shownWith 19 = .ok (.aload_n 0, 1) := by decide +kernel
theorem dX10_shownWith_20 : decode cX10_shownWith 20 = .ok (.iload 4, 2) := by decide +kernel
theorem dX10_shownWith_22 : decode cX10_shownWith 22 = .ok (.invokevirtual 72, 3) := by decide +kernel
theorem dX10_shownWith_25 : decode cX10_shownWith 25 = .ok (.iadd, 1) := by decide +kernel
theorem dX10_shownWith_26 : decode cX10_shownWith 26 = .ok (.istore_n 3, 1) := by decide +kernel
theorem dX10_shownWith_27 : decode cX10_shownWith 27 = .ok (.iload_n 1, 1) := by decide +kernel
theorem dX10_shownWith_28 : decode cX10_shownWith 28 = .ok (.iload 4, 2) := by decide +kernel
theorem dX10_shownWith_30 : decode cX10_shownWith 30 = .ok (.invokestatic 68, 3) := by decide +kernel
theorem dX10_shownWith_33 : decode cX10_shownWith 33 = .ok (.ifCond .eq 14, 3) := by decide +kernel
theorem dX10_shownWith_36 : decode cX10_shownWith 36 = .ok (.iload_n 2, 1) := by decide +kernel
theorem dX10_shownWith_37 : decode cX10_shownWith 37 = .ok (.iconst 2, 1) := by decide +kernel
theorem dX10_shownWith_38 : decode cX10_shownWith 38 = .ok (.iload_n 3, 1) := by decide +kernel
theorem dX10_shownWith_39 : decode cX10_shownWith 39 = .ok (.invokestatic 75, 3) := by decide +kernel
theorem dX10_shownWith_42 : decode cX10_shownWith 42 = .ok (.imul, 1) := by decide +kernel
theorem dX10_shownWith_43 : decode cX10_shownWith 43 = .ok (.iadd, 1) := by decide +kernel
theorem dX10_shownWith_44 : decode cX10_shownWith 44 = .ok (.istore_n 2, 1) := by decide +kernel
theorem dX10_shownWith_45 : decode cX10_shownWith 45 = .ok (.iconst 0, 1) := by decide +kernel
theorem dX10_shownWith_46 : decode cX10_shownWith 46 = .ok (.istore_n 3, 1) := by decide +kernel
theorem dX10_shownWith_47 : decode cX10_shownWith 47 = .ok (.iload_n 2, 1) := by decide +kernel
theorem dX10_shownWith_48 : decode cX10_shownWith 48 = .ok (.iload_n 3, 1) := by decide +kernel
theorem dX10_shownWith_49 : decode cX10_shownWith 49 = .ok (.invokestatic 75, 3) := by decide +kernel
theorem dX10_shownWith_52 : decode cX10_shownWith 52 = .ok (.iadd, 1) := by decide +kernel
theorem dX10_shownWith_53 : decode cX10_shownWith 53 = .ok (.istore_n 2, 1) := by decide +kernel
theorem dX10_shownWith_54 : decode cX10_shownWith 54 = .ok (.iinc 4 1, 3) := by decide +kernel
theorem dX10_shownWith_57 : decode cX10_shownWith 57 = .ok (.goto (-50), 3) := by decide +kernel
theorem dX10_shownWith_60 : decode cX10_shownWith 60 = .ok (.iload_n 2, 1) := by decide +kernel
theorem dX10_shownWith_61 : decode cX10_shownWith 61 = .ok (.ireturn, 1) := by decide +kernel
theorem dX10_isCut_0 : decode cX10_isCut 0 = .ok (.iload_n 0, 1) := by decide +kernel
theorem dX10_isCut_1 : decode cX10_isCut 1 = .ok (.iload_n 1, 1) := by decide +kernel
theorem dX10_isCut_2 : decode cX10_isCut 2 = .ok (.ishr, 1) := by decide +kernel
theorem dX10_isCut_3 : decode cX10_isCut 3 = .ok (.iconst 1, 1) := by decide +kernel
theorem dX10_isCut_4 : decode cX10_isCut 4 = .ok (.iand, 1) := by decide +kernel
theorem dX10_isCut_5 : decode cX10_isCut 5 = .ok (.iconst 1, 1) := by decide +kernel
theorem dX10_isCut_6 : decode cX10_isCut 6 = .ok (.if_icmp .ne 7, 3) := by decide +kernel
theorem dX10_isCut_9 : decode cX10_isCut 9 = .ok (.iconst 1, 1) := by decide +kernel
theorem dX10_isCut_10 : decode cX10_isCut 10 = .ok (.goto 4, 3) := by decide +kernel
theorem dX10_isCut_13 : decode cX10_isCut 13 = .ok (.iconst 0, 1) := by decide +kernel
theorem dX10_isCut_14 : decode cX10_isCut 14 = .ok (.ireturn, 1) := by decide +kernel
theorem dX10_runsOffAt_0 : decode cX10_runsOffAt 0 = .ok (.aload_n 0, 1) := by decide +kernel
theorem dX10_runsOffAt_1 : decode cX10_runsOffAt 1 = .ok (.iload_n 1, 1) := by decide +kernel
theorem dX10_runsOffAt_2 : decode cX10_runsOffAt 2 = .ok (.invokevirtual 36, 3) := by decide +kernel
theorem dX10_runsOffAt_5 : decode cX10_runsOffAt 5 = .ok (.ifCond .eq 22, 3) := by decide +kernel
theorem dX10_runsOffAt_8 : decode cX10_runsOffAt 8 = .ok (.aload_n 0, 1) := by decide +kernel
theorem dX10_runsOffAt_9 : decode cX10_runsOffAt 9 = .ok (.getfield 22, 3) := by decide +kernel
theorem dX10_runsOffAt_12 : decode cX10_runsOffAt 12 = .ok (.iload_n 1, 1) := by decide +kernel
theorem dX10_runsOffAt_13 : decode cX10_runsOffAt 13 = .ok (.iaload, 1) := by decide +kernel
theorem dX10_runsOffAt_14 : decode cX10_runsOffAt 14 = .ok (.aload_n 0, 1) := by decide +kernel
theorem dX10_runsOffAt_15 : decode cX10_runsOffAt 15 = .ok (.getfield 19, 3) := by decide +kernel
theorem dX10_runsOffAt_18 : decode cX10_runsOffAt 18 = .ok (.iload_n 1, 1) := by decide +kernel
theorem dX10_runsOffAt_19 : decode cX10_runsOffAt 19 = .ok (.iaload, 1) := by decide +kernel
theorem dX10_runsOffAt_20 : decode cX10_runsOffAt 20 = .ok (.imul, 1) := by decide +kernel
theorem dX10_runsOffAt_21 : decode cX10_runsOffAt 21 = .ok (.bipush 100, 2) := by decide +kernel
theorem dX10_runsOffAt_23 : decode cX10_runsOffAt 23 = .ok (.idiv, 1) := by decide +kernel
theorem dX10_runsOffAt_24 : decode cX10_runsOffAt 24 = .ok (.goto 4, 3) := by decide +kernel
theorem dX10_runsOffAt_27 : decode cX10_runsOffAt 27 = .ok (.iconst 0, 1) := by decide +kernel
theorem dX10_runsOffAt_28 : decode cX10_runsOffAt 28 = .ok (.ireturn, 1) := by decide +kernel
theorem dX11_isFrom_0 : decode cX11_isFrom 0 = .ok (.iload_n 1, 1) := by decide +kernel
theorem dX11_isFrom_1 : decode cX11_isFrom 1 = .ok (.iload_n 0, 1) := by decide +kernel
theorem dX11_isFrom_2 : decode cX11_isFrom 2 = .ok (.if_icmp .lt 12, 3) := by decide +kernel
theorem dX11_isFrom_5 : decode cX11_isFrom 5 = .ok (.iload_n 1, 1) := by decide +kernel
theorem dX11_isFrom_6 : decode cX11_isFrom 6 = .ok (.iload_n 2, 1) := by decide +kernel
theorem dX11_isFrom_7 : decode cX11_isFrom 7 = .ok (.if_icmp .gt 7, 3) := by decide +kernel
theorem dX11_isFrom_10 : decode cX11_isFrom 10 = .ok (.iconst 1, 1) := by decide +kernel
theorem dX11_isFrom_11 : decode cX11_isFrom 11 = .ok (.goto 4, 3) := by decide +kernel
theorem dX11_isFrom_14 : decode cX11_isFrom 14 = .ok (.iconst 0, 1) := by decide +kernel
theorem dX11_isFrom_15 : decode cX11_isFrom 15 = .ok (.ireturn, 1) := by decide +kernel
theorem dX11_rest_0 : decode cX11_rest 0 = .ok (.iload_n 1, 1) := by decide +kernel
theorem dX11_rest_1 : decode cX11_rest 1 = .ok (.ifCond .gt 5, 3) := by decide +kernel
theorem dX11_rest_4 : decode cX11_rest 4 = .ok (.iconst 0, 1) := by decide +kernel
theorem dX11_rest_5 : decode cX11_rest 5 = .ok (.ireturn, 1) := by decide +kernel
theorem dX11_rest_6 : decode cX11_rest 6 = .ok (.iload_n 0, 1) := by decide +kernel
theorem dX11_rest_7 : decode cX11_rest 7 = .ok (.iload_n 1, 1) := by decide +kernel
theorem dX11_rest_8 : decode cX11_rest 8 = .ok (.irem, 1) := by decide +kernel
theorem dX11_rest_9 : decode cX11_rest 9 = .ok (.istore_n 2, 1) := by decide +kernel
theorem dX11_rest_10 : decode cX11_rest 10 = .ok (.iload_n 2, 1) := by decide +kernel
theorem dX11_rest_11 : decode cX11_rest 11 = .ok (.ifCond .ge 9, 3) := by decide +kernel
theorem dX11_rest_14 : decode cX11_rest 14 = .ok (.iload_n 2, 1) := by decide +kernel
theorem dX11_rest_15 : decode cX11_rest 15 = .ok (.iload_n 1, 1) := by decide +kernel
theorem dX11_rest_16 : decode cX11_rest 16 = .ok (.iadd, 1) := by decide +kernel
theorem dX11_rest_17 : decode cX11_rest 17 = .ok (.goto 4, 3) := by decide +kernel
theorem dX11_rest_20 : decode cX11_rest 20 = .ok (.iload_n 2, 1) := by decide +kernel
theorem dX11_rest_21 : decode cX11_rest 21 = .ok (.ireturn, 1) := by decide +kernel
theorem dX11_cutUp_0 : decode cX11_cutUp 0 = .ok (.iload_n 1, 1) := by decide +kernel
theorem dX11_cutUp_1 : decode cX11_cutUp 1 = .ok (.ifCond .gt 7, 3) := by decide +kernel
theorem dX11_cutUp_4 : decode cX11_cutUp 4 = .ok (.iconst 0, 1) := by decide +kernel
theorem dX11_cutUp_5 : decode cX11_cutUp 5 = .ok (.goto 10, 3) := by decide +kernel
theorem dX11_cutUp_8 : decode cX11_cutUp 8 = .ok (.iload_n 0, 1) := by decide +kernel
theorem dX11_cutUp_9 : decode cX11_cutUp 9 = .ok (.iload_n 1, 1) := by decide +kernel
theorem dX11_cutUp_10 : decode cX11_cutUp 10 = .ok (.iadd, 1) := by decide +kernel
theorem dX11_cutUp_11 : decode cX11_cutUp 11 = .ok (.iconst 1, 1) := by decide +kernel
theorem dX11_cutUp_12 : decode cX11_cutUp 12 = .ok (.isub, 1) := by decide +kernel
theorem dX11_cutUp_13 : decode cX11_cutUp 13 = .ok (.iload_n 1, 1) := by decide +kernel
theorem dX11_cutUp_14 : decode cX11_cutUp 14 = .ok (.idiv, 1) := by decide +kernel
theorem dX11_cutUp_15 : decode cX11_cutUp 15 = .ok (.ireturn, 1) := by decide +kernel
theorem dJ0_length_8abf5_0 : decode cJ0_length_8abf5 0 = .ok (.aload_n 0, 1) := by decide +kernel
theorem dJ0_length_8abf5_1 : decode cJ0_length_8abf5 1 = .ok (.getfield 9, 3) := by decide +kernel
theorem dJ0_length_8abf5_4 : decode cJ0_length_8abf5 4 = .ok (.arraylength, 1) := by decide +kernel
theorem dJ0_length_8abf5_5 : decode cJ0_length_8abf5 5 = .ok (.aload_n 0, 1) := by decide +kernel
theorem dJ0_length_8abf5_6 : decode cJ0_length_8abf5 6 = .ok (.invokevirtual 335, 3) := by decide +kernel
theorem dJ0_length_8abf5_9 : decode cJ0_length_8abf5 9 = .ok (.ishr, 1) := by decide +kernel
theorem dJ0_length_8abf5_10 : decode cJ0_length_8abf5 10 = .ok (.ireturn, 1) := by decide +kernel
theorem dJ0_charAt_5068e_0 : decode cJ0_charAt_5068e 0 = .ok (.aload_n 0, 1) := by decide +kernel
theorem dJ0_charAt_5068e_1 : decode cJ0_charAt_5068e 1 = .ok (.invokevirtual 492, 3) := by decide +kernel
theorem dJ0_charAt_5068e_4 : decode cJ0_charAt_5068e 4 = .ok (.ifCond .eq 12, 3) := by decide +kernel
theorem dJ0_charAt_5068e_7 : decode cJ0_charAt_5068e 7 = .ok (.aload_n 0, 1) := by decide +kernel
theorem dJ0_charAt_5068e_8 : decode cJ0_charAt_5068e 8 = .ok (.getfield 9, 3) := by decide +kernel
theorem dJ0_charAt_5068e_11 : decode cJ0_charAt_5068e 11 = .ok (.iload_n 1, 1) := by decide +kernel
theorem dJ0_charAt_5068e_12 : decode cJ0_charAt_5068e 12 = .ok (.invokestatic 495, 3) := by decide +kernel
theorem dJ0_charAt_5068e_15 : decode cJ0_charAt_5068e 15 = .ok (.ireturn, 1) := by decide +kernel
theorem dJ0_coder_7d493_0 : decode cJ0_coder_7d493 0 = .ok (.getstatic 38, 3) := by decide +kernel
theorem dJ0_coder_7d493_3 : decode cJ0_coder_7d493 3 = .ok (.ifCond .eq 10, 3) := by decide +kernel
theorem dJ0_coder_7d493_6 : decode cJ0_coder_7d493 6 = .ok (.aload_n 0, 1) := by decide +kernel
theorem dJ0_coder_7d493_7 : decode cJ0_coder_7d493 7 = .ok (.getfield 15, 3) := by decide +kernel
theorem dJ0_coder_7d493_10 : decode cJ0_coder_7d493 10 = .ok (.goto 4, 3) := by decide +kernel
theorem dJ0_coder_7d493_14 : decode cJ0_coder_7d493 14 = .ok (.ireturn, 1) := by decide +kernel
theorem dJ0_isLatin1_aae02_0 : decode cJ0_isLatin1_aae02 0 = .ok (.getstatic 38, 3) := by decide +kernel
theorem dJ0_isLatin1_aae02_3 : decode cJ0_isLatin1_aae02 3 = .ok (.ifCond .eq 14, 3) := by decide +kernel
theorem dJ0_isLatin1_aae02_6 : decode cJ0_isLatin1_aae02 6 = .ok (.aload_n 0, 1) := by decide +kernel
theorem dJ0_isLatin1_aae02_7 : decode cJ0_isLatin1_aae02 7 = .ok (.getfield 15, 3) := by decide +kernel
theorem dJ0_isLatin1_aae02_10 : decode cJ0_isLatin1_aae02 10 = .ok (.ifCond .ne 7, 3) := by decide +kernel
theorem dJ0_isLatin1_aae02_13 : decode cJ0_isLatin1_aae02 13 = .ok (.iconst 1, 1) := by decide +kernel
theorem dJ0_isLatin1_aae02_14 : decode cJ0_isLatin1_aae02 14 = .ok (.goto 4, 3) := by decide +kernel
theorem dJ0_isLatin1_aae02_18 : decode cJ0_isLatin1_aae02 18 = .ok (.ireturn, 1) := by decide +kernel
theorem dJ0_checkIndex_df160_0 : decode cJ0_checkIndex_df160 0 = .ok (.iload_n 0, 1) := by decide +kernel
theorem dJ0_checkIndex_df160_1 : decode cJ0_checkIndex_df160 1 = .ok (.iload_n 1, 1) := by decide +kernel
theorem dJ0_checkIndex_df160_2 : decode cJ0_checkIndex_df160 2 = .ok (.getstatic 1053, 3) := by decide +kernel
theorem dJ0_checkIndex_df160_5 : decode cJ0_checkIndex_df160 5 = .ok (.invokestatic 1059, 3) := by decide +kernel
theorem dJ0_checkIndex_df160_8 : decode cJ0_checkIndex_df160 8 = .ok (.pop, 1) := by decide +kernel
theorem dJ0_checkIndex_df160_9 : decode cJ0_checkIndex_df160 9 = .ok (.return_, 1) := by decide +kernel
theorem dJ1_charAt_3b067_0 : decode cJ1_charAt_3b067 0 = .ok (.iload_n 1, 1) := by decide +kernel
theorem dJ1_charAt_3b067_1 : decode cJ1_charAt_3b067 1 = .ok (.aload_n 0, 1) := by decide +kernel
theorem dJ1_charAt_3b067_2 : decode cJ1_charAt_3b067 2 = .ok (.arraylength, 1) := by decide +kernel
theorem dJ1_charAt_3b067_3 : decode cJ1_charAt_3b067 3 = .ok (.invokestatic 9, 3) := by decide +kernel
theorem dJ1_charAt_3b067_6 : decode cJ1_charAt_3b067 6 = .ok (.aload_n 0, 1) := by decide +kernel
theorem dJ1_charAt_3b067_7 : decode cJ1_charAt_3b067 7 = .ok (.iload_n 1, 1) := by decide +kernel
theorem dJ1_charAt_3b067_8 : decode cJ1_charAt_3b067 8 = .ok (.baload, 1) := by decide +kernel
theorem dJ1_charAt_3b067_9 : decode cJ1_charAt_3b067 9 = .ok (.sipush 255, 3) := by decide +kernel
theorem dJ1_charAt_3b067_12 : decode cJ1_charAt_3b067 12 = .ok (.iand, 1) := by decide +kernel
theorem dJ1_charAt_3b067_13 : decode cJ1_charAt_3b067 13 = .ok (.i2c, 1) := by decide +kernel
theorem dJ1_charAt_3b067_14 : decode cJ1_charAt_3b067 14 = .ok (.ireturn, 1) := by decide +kernel
theorem dJ3_checkIndex_8e157_0 : decode cJ3_checkIndex_8e157 0 = .ok (.iload_n 0, 1) := by decide +kernel
theorem dJ3_checkIndex_8e157_1 : decode cJ3_checkIndex_8e157 1 = .ok (.ifCond .lt 8, 3) := by decide +kernel
theorem dJ3_checkIndex_8e157_4 : decode cJ3_checkIndex_8e157 4 = .ok (.iload_n 0, 1) := by decide +kernel
theorem dJ3_checkIndex_8e157_5 : decode cJ3_checkIndex_8e157 5 = .ok (.iload_n 1, 1) := by decide +kernel
theorem dJ3_checkIndex_8e157_6 : decode cJ3_checkIndex_8e157 6 = .ok (.if_icmp .lt 10, 3) := by decide +kernel
theorem dJ3_checkIndex_8e157_16 : decode cJ3_checkIndex_8e157 16 = .ok (.iload_n 0, 1) := by decide +kernel
theorem dJ3_checkIndex_8e157_17 : decode cJ3_checkIndex_8e157 17 = .ok (.ireturn, 1) := by decide +kernel
