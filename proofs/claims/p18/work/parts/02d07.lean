theorem dX10_tallestEndBetween_61 : decode cX10_tallestEndBetween 61 = .ok (.iload_n 2, 1) := by decide +kernel
theorem dX10_tallestEndBetween_62 : decode cX10_tallestEndBetween 62 = .ok (.if_icmp .ge 25, 3) := by decide +kernel
theorem dX10_tallestEndBetween_65 : decode cX10_tallestEndBetween 65 = .ok (.iload_n 3, 1) := by decide +kernel
theorem dX10_tallestEndBetween_66 : decode cX10_tallestEndBetween 66 = .ok (.aload_n 0, 1) := by decide +kernel
theorem dX10_tallestEndBetween_67 : decode cX10_tallestEndBetween 67 = .ok (.getfield 19, 3) := by decide +kernel
theorem dX10_tallestEndBetween_70 : decode cX10_tallestEndBetween 70 = .ok (.iload 4, 2) := by decide +kernel
theorem dX10_tallestEndBetween_72 : decode cX10_tallestEndBetween 72 = .ok (.iaload, 1) := by decide +kernel
theorem dX10_tallestEndBetween_73 : decode cX10_tallestEndBetween 73 = .ok (.aload_n 0, 1) := by decide +kernel
theorem dX10_tallestEndBetween_74 : decode cX10_tallestEndBetween 74 = .ok (.getfield 16, 3) := by decide +kernel
theorem dX10_tallestEndBetween_77 : decode cX10_tallestEndBetween 77 = .ok (.iload 5, 2) := by decide +kernel
theorem dX10_tallestEndBetween_79 : decode cX10_tallestEndBetween 79 = .ok (.iaload, 1) := by decide +kernel
theorem dX10_tallestEndBetween_80 : decode cX10_tallestEndBetween 80 = .ok (.invokestatic 59, 3) := by decide +kernel
theorem dX10_tallestEndBetween_83 : decode cX10_tallestEndBetween 83 = .ok (.invokestatic 59, 3) := by decide +kernel
theorem dX10_tallestEndBetween_86 : decode cX10_tallestEndBetween 86 = .ok (.istore_n 3, 1) := by decide +kernel
theorem dX10_tallestEndBetween_87 : decode cX10_tallestEndBetween 87 = .ok (.iload 5, 2) := by decide +kernel
theorem dX10_tallestEndBetween_89 : decode cX10_tallestEndBetween 89 = .ok (.istore 4, 2) := by decide +kernel
theorem dX10_tallestEndBetween_91 : decode cX10_tallestEndBetween 91 = .ok (.iinc 5 1, 3) := by decide +kernel
theorem dX10_tallestEndBetween_94 : decode cX10_tallestEndBetween 94 = .ok (.goto (-81), 3) := by decide +kernel
theorem dX10_tallestEndBetween_97 : decode cX10_tallestEndBetween 97 = .ok (.iload_n 3, 1) := by decide +kernel
theorem dX10_tallestEndBetween_98 : decode cX10_tallestEndBetween 98 = .ok (.ireturn, 1) := by decide +kernel
theorem dX10_canBeCutAt_0 : decode cX10_canBeCutAt 0 = .ok (.aload_n 0, 1) := by decide +kernel
theorem dX10_canBeCutAt_1 : decode cX10_canBeCutAt 1 = .ok (.getfield 29, 3) := by decide +kernel
theorem dX10_canBeCutAt_4 : decode cX10_canBeCutAt 4 = .ok (.ifCond .le 25, 3) := by decide +kernel
theorem dX10_canBeCutAt_7 : decode cX10_canBeCutAt 7 = .ok (.iconst 0, 1) := by decide +kernel
theorem dX10_canBeCutAt_8 : decode cX10_canBeCutAt 8 = .ok (.iload_n 1, 1) := by decide +kernel
theorem dX10_canBeCutAt_9 : decode cX10_canBeCutAt 9 = .ok (.iconst 1, 1) := by decide +kernel
theorem dX10_canBeCutAt_10 : decode cX10_canBeCutAt 10 = .ok (.aload_n 0, 1) := by decide +kernel
theorem dX10_canBeCutAt_11 : decode cX10_canBeCutAt 11 = .ok (.getfield 29, 3) := by decide +kernel
theorem dX10_canBeCutAt_14 : decode cX10_canBeCutAt 14 = .ok (.iconst 1, 1) := by decide +kernel
theorem dX10_canBeCutAt_15 : decode cX10_canBeCutAt 15 = .ok (.isub, 1) := by decide +kernel
theorem dX10_canBeCutAt_16 : decode cX10_canBeCutAt 16 = .ok (.ishl, 1) := by decide +kernel
theorem dX10_canBeCutAt_17 : decode cX10_canBeCutAt 17 = .ok (.iconst 1, 1) := by decide +kernel
theorem dX10_canBeCutAt_18 : decode cX10_canBeCutAt 18 = .ok (.isub, 1) := by decide +kernel
theorem dX10_canBeCutAt_19 : decode cX10_canBeCutAt 19 = .ok (.invokestatic 62, 3) := by decide +kernel
theorem dX10_canBeCutAt_22 : decode cX10_canBeCutAt 22 = .ok (.ifCond .eq 7, 3) := by decide +kernel
theorem dX10_canBeCutAt_25 : decode cX10_canBeCutAt 25 = .ok (.iconst 1, 1) := by decide +kernel
theorem dX10_canBeCutAt_26 : decode cX10_canBeCutAt 26 = .ok (.goto 4, 3) := by decide +kernel
theorem dX10_canBeCutAt_29 : decode cX10_canBeCutAt 29 = .ok (.iconst 0, 1) := by decide +kernel
theorem dX10_canBeCutAt_30 : decode cX10_canBeCutAt 30 = .ok (.ireturn, 1) := by decide +kernel
theorem dX10_runOf_0 : decode cX10_runOf 0 = .ok (.iconst 0, 1) := by decide +kernel
theorem dX10_runOf_1 : decode cX10_runOf 1 = .ok (.istore_n 3, 1) := by decide +kernel
theorem dX10_runOf_2 : decode cX10_runOf 2 = .ok (.iconst 0, 1) := by decide +kernel
theorem dX10_runOf_3 : decode cX10_runOf 3 = .ok (.istore 4, 2) := by decide +kernel
theorem dX10_runOf_5 : decode cX10_runOf 5 = .ok (.iload 4, 2) := by decide +kernel
theorem dX10_runOf_7 : decode cX10_runOf 7 = .ok (.iload_n 2, 1) := by decide +kernel
theorem dX10_runOf_8 : decode cX10_runOf 8 = .ok (.if_icmp .ge 40, 3) := by decide +kernel
theorem dX10_runOf_11 : decode cX10_runOf 11 = .ok (.iload 4, 2) := by decide +kernel
theorem dX10_runOf_13 : decode cX10_runOf 13 = .ok (.aload_n 0, 1) := by decide +kernel
theorem dX10_runOf_14 : decode cX10_runOf 14 = .ok (.getfield 29, 3) := by decide +kernel
theorem dX10_runOf_17 : decode cX10_runOf 17 = .ok (.if_icmp .ge 31, 3) := by decide +kernel
theorem dX10_runOf_20 : decode cX10_runOf 20 = .ok (.iload_n 1, 1) := by decide +kernel
theorem dX10_runOf_21 : decode cX10_runOf 21 = .ok (.iload 4, 2) := by decide +kernel
theorem dX10_runOf_23 : decode cX10_runOf 23 = .ok (.invokestatic 68, 3) := by decide +kernel
theorem dX10_runOf_26 : decode cX10_runOf 26 = .ok (.ifCond .eq 7, 3) := by decide +kernel
theorem dX10_runOf_29 : decode cX10_runOf 29 = .ok (.iconst 0, 1) := by decide +kernel
theorem dX10_runOf_30 : decode cX10_runOf 30 = .ok (.goto 11, 3) := by decide +kernel
theorem dX10_runOf_33 : decode cX10_runOf 33 = .ok (.iload_n 3, 1) := by decide +kernel
theorem dX10_runOf_34 : decode cX10_runOf 34 = .ok (.aload_n 0, 1) := by decide +kernel
theorem dX10_runOf_35 : decode cX10_runOf 35 = .ok (.iload 4, 2) := by decide +kernel
theorem dX10_runOf_37 : decode cX10_runOf 37 = .ok (.invokevirtual 72, 3) := by decide +kernel
theorem dX10_runOf_40 : decode cX10_runOf 40 = .ok (.iadd, 1) := by decide +kernel
theorem dX10_runOf_41 : decode cX10_runOf 41 = .ok (.istore_n 3, 1) := by decide +kernel
theorem dX10_runOf_42 : decode cX10_runOf 42 = .ok (.iinc 4 1, 3) := by decide +kernel
theorem dX10_runOf_45 : decode cX10_runOf 45 = .ok (.goto (-40), 3) := by decide +kernel
theorem dX10_runOf_48 : decode cX10_runOf 48 = .ok (.iload_n 3, 1) := by decide +kernel
theorem dX10_runOf_49 : decode cX10_runOf 49 = .ok (.ireturn, 1) := by decide +kernel
theorem dX10_shownWith_0 : decode cX10_shownWith 0 = .ok (.iconst 0, 1) := by decide +kernel
theorem dX10_shownWith_1 : decode cX10_shownWith 1 = .ok (.istore_n 2, 1) := by decide +kernel
theorem dX10_shownWith_2 : decode cX10_shownWith 2 = .ok (.iconst 0, 1) := by decide +kernel
theorem dX10_shownWith_3 : decode cX10_shownWith 3 = .ok (.istore_n 3, 1) := by decide +kernel
theorem dX10_shownWith_4 : decode cX10_shownWith 4 = .ok (.iconst 0, 1) := by decide +kernel
theorem dX10_shownWith_5 : decode cX10_shownWith 5 = .ok (.istore 4, 2) := by decide +kernel
theorem dX10_shownWith_7 : decode cX10_shownWith 7 = .ok (.iload 4, 2) := by decide +kernel
theorem dX10_shownWith_9 : decode cX10_shownWith 9 = .ok (.aload_n 0, 1) := by decide +kernel
theorem dX10_shownWith_10 : decode cX10_shownWith 10 = .ok (.getfield 29, 3) := by decide +kernel
theorem dX10_shownWith_13 : decode cX10_shownWith 13 = .ok (.iconst 1, 1) := by decide +kernel
theorem dX10_shownWith_14 : decode cX10_shownWith 14 = .ok (.isub, 1) := by decide +kernel
theorem dX10_shownWith_15 : decode cX10_shownWith 15 = .ok (.if_icmp .ge 45, 3) := by decide +kernel
theorem dX10_shownWith_18 : decode cX10_shownWith 18 = .ok (.iload_n 3, 1) := by decide +kernel
theorem dX10_shownWith_19 : decode cX10_shownWith 19 = .ok (.aload_n 0, 1) := by decide +kernel
theorem dX10_shownWith_20 : decode cX10_shownWith 20 = .ok (.iload 4, 2) := by decide +kernel
theorem dX10_shownWith_22 : decode cX10_shownWith 22 = .ok (.invokevirtual 72, 3) := by decide +kernel
theorem dX10_shownWith_25 : decode cX10_shownWith 25 = .ok (.iadd, 1) := by decide +kernel
theorem dX10_shownWith_26 : decode cX10_shownWith 26 = .ok (.istore_n 3, 1) := by decide +kernel
theorem dX10_shownWith_27 : decode cX10_shownWith 27 = .ok (.iload_n 1, 1) := by decide +kernel
theorem dX10_shownWith_28 : decode cX10_shownWith 28 = .ok (.iload 4, 2) := by decide +kernel
theorem dX10_shownWith_30 : decode cX10_shownWith 30 = .ok (.invokestatic 68, 3) := by decide +kernel
theorem dX10_shownWith_33 : decode cX10_shownWith 33 = .ok (.ifCond .eq 14, 3) := by decide +kernel
theorem dX10_shownWith_36 : decode cX10_shownWith 36 = .ok (.iload_n 2, 1) := by decide +kernel
theorem dX10_shownWith_37 : decode cX10_shownWith 37 = .ok (.iconst 2, 1) := by decide +kernel
theorem dX10_shownWith_38 : decode cX10_shownWith 38 = .ok (.iload_n 3, 1) := by decide +kernel
theorem dX10_shownWith_39 : decode cX10_shownWith 39 = .ok (.invokestatic 75, 3) := by decide +kernel
theorem dX10_shownWith_42 : decode cX10_shownWith 42 = .ok (.imul, 1) := by decide +kernel
theorem dX10_shownWith_43 : decode cX10_shownWith 43 = .ok (.iadd, 1) := by decide +kernel
theorem dX10_shownWith_44 : decode cX10_shownWith 44 = .ok (.istore_n 2, 1) := by decide +kernel
theorem dX10_shownWith_45 : decode cX10_shownWith 45 = .ok (.iconst 0, 1) := by decide +kernel
theorem dX10_shownWith_46 : decode cX10_shownWith 46 = .ok (.istore_n 3, 1) := by decide +kernel
theorem dX10_shownWith_47 : decode cX10_shownWith 47 = .ok (.iload_n 2, 1) := by decide +kernel
theorem dX10_shownWith_48 : decode cX10_shownWith 48 = .ok (.iload_n 3, 1) := by decide +kernel
theorem dX10_shownWith_49 : decode cX10_shownWith 49 = .ok (.invokestatic 75, 3) := by decide +kernel
theorem dX10_shownWith_52 : decode cX10_shownWith 52 = .ok (.iadd, 1) := by decide +kernel
theorem dX10_shownWith_53 : decode cX10_shownWith 53 = .ok (.istore_n 2, 1) := by decide +kernel
theorem dX10_shownWith_54 : decode cX10_shownWith 54 = .ok (.iinc 4 1, 3) := by decide +kernel
theorem dX10_shownWith_57 : decode cX10_shownWith 57 = .ok (.goto (-50), 3) := by decide +kernel
theorem dX10_shownWith_60 : decode cX10_shownWith 60 = .ok (.iload_n 2, 1) := by decide +kernel
theorem dX10_shownWith_61 : decode cX10_shownWith 61 = .ok (.ireturn, 1) := by decide +kernel
theorem dX10_leastCuts_0 : decode cX10_leastCuts 0 = .ok (.iconst 0, 1) := by decide +kernel
theorem dX10_leastCuts_1 : decode cX10_leastCuts 1 = .ok (.istore_n 1, 1) := by decide +kernel
theorem dX10_leastCuts_2 : decode cX10_leastCuts 2 = .ok (.aload_n 0, 1) := by decide +kernel
theorem dX10_leastCuts_3 : decode cX10_leastCuts 3 = .ok (.iconst 0, 1) := by decide +kernel
theorem dX10_leastCuts_4 : decode cX10_leastCuts 4 = .ok (.invokevirtual 78, 3) := by decide +kernel
theorem dX10_leastCuts_7 : decode cX10_leastCuts 7 = .ok (.istore_n 2, 1) := by decide +kernel
theorem dX10_leastCuts_8 : decode cX10_leastCuts 8 = .ok (.aload_n 0, 1) := by decide +kernel
theorem dX10_leastCuts_9 : decode cX10_leastCuts 9 = .ok (.getfield 29, 3) := by decide +kernel
theorem dX10_leastCuts_12 : decode cX10_leastCuts 12 = .ok (.ifCond .le 14, 3) := by decide +kernel
theorem dX10_leastCuts_15 : decode cX10_leastCuts 15 = .ok (.iconst 1, 1) := by decide +kernel
theorem dX10_leastCuts_16 : decode cX10_leastCuts 16 = .ok (.aload_n 0, 1) := by decide +kernel
theorem dX10_leastCuts_17 : decode cX10_leastCuts 17 = .ok (.getfield 29, 3) := by decide +kernel
theorem dX10_leastCuts_20 : decode cX10_leastCuts 20 = .ok (.iconst 1, 1) := by decide +kernel
theorem dX10_leastCuts_21 : decode cX10_leastCuts 21 = .ok (.isub, 1) := by decide +kernel
theorem dX10_leastCuts_22 : decode cX10_leastCuts 22 = .ok (.ishl, 1) := by decide +kernel
theorem dX10_leastCuts_23 : decode cX10_leastCuts 23 = .ok (.goto 4, 3) := by decide +kernel
theorem dX10_leastCuts_27 : decode cX10_leastCuts 27 = .ok (.istore_n 3, 1) := by decide +kernel
theorem dX10_leastCuts_28 : decode cX10_leastCuts 28 = .ok (.iconst 1, 1) := by decide +kernel
theorem dX10_leastCuts_29 : decode cX10_leastCuts 29 = .ok (.istore 4, 2) := by decide +kernel
theorem dX10_leastCuts_31 : decode cX10_leastCuts 31 = .ok (.iload 4, 2) := by decide +kernel
theorem dX10_leastCuts_33 : decode cX10_leastCuts 33 = .ok (.iload_n 3, 1) := by decide +kernel
theorem dX10_leastCuts_34 : decode cX10_leastCuts 34 = .ok (.if_icmp .ge 59, 3) := by decide +kernel
theorem dX10_leastCuts_37 : decode cX10_leastCuts 37 = .ok (.aload_n 0, 1) := by decide +kernel
theorem dX10_leastCuts_38 : decode cX10_leastCuts 38 = .ok (.iload 4, 2) := by decide +kernel
theorem dX10_leastCuts_40 : decode cX10_leastCuts 40 = .ok (.invokevirtual 78, 3) := by decide +kernel
theorem dX10_leastCuts_43 : decode cX10_leastCuts 43 = .ok (.istore 5, 2) := by decide +kernel
theorem dX10_leastCuts_45 : decode cX10_leastCuts 45 = .ok (.iload 4, 2) := by decide +kernel
theorem dX10_leastCuts_47 : decode cX10_leastCuts 47 = .ok (.invokestatic 81, 3) := by decide +kernel
theorem dX10_leastCuts_50 : decode cX10_leastCuts 50 = .ok (.iload_n 1, 1) := by decide +kernel
theorem dX10_leastCuts_51 : decode cX10_leastCuts 51 = .ok (.invokestatic 81, 3) := by decide +kernel
theorem dX10_leastCuts_54 : decode cX10_leastCuts 54 = .ok (.if_icmp .ge 7, 3) := by decide +kernel
theorem dX10_leastCuts_57 : decode cX10_leastCuts 57 = .ok (.iconst 1, 1) := by decide +kernel
theorem dX10_leastCuts_58 : decode cX10_leastCuts 58 = .ok (.goto 4, 3) := by decide +kernel
theorem dX10_leastCuts_61 : decode cX10_leastCuts 61 = .ok (.iconst 0, 1) := by decide +kernel
theorem dX10_leastCuts_62 : decode cX10_leastCuts 62 = .ok (.istore 6, 2) := by decide +kernel
theorem dX10_leastCuts_64 : decode cX10_leastCuts 64 = .ok (.iload 5, 2) := by decide +kernel
theorem dX10_leastCuts_66 : decode cX10_leastCuts 66 = .ok (.iload_n 2, 1) := by decide +kernel
theorem dX10_leastCuts_67 : decode cX10_leastCuts 67 = .ok (.if_icmp .lt 14, 3) := by decide +kernel
theorem dX10_leastCuts_70 : decode cX10_leastCuts 70 = .ok (.iload 5, 2) := by decide +kernel
theorem dX10_leastCuts_72 : decode cX10_leastCuts 72 = .ok (.iload_n 2, 1) := by decide +kernel
theorem dX10_leastCuts_73 : decode cX10_leastCuts 73 = .ok (.if_icmp .ne 14, 3) := by decide +kernel
theorem dX10_leastCuts_76 : decode cX10_leastCuts 76 = .ok (.iload 6, 2) := by decide +kernel
theorem dX10_leastCuts_78 : decode cX10_leastCuts 78 = .ok (.ifCond .eq 9, 3) := by decide +kernel
theorem dX10_leastCuts_81 : decode cX10_leastCuts 81 = .ok (.iload 4, 2) := by decide +kernel
theorem dX10_leastCuts_83 : decode cX10_leastCuts 83 = .ok (.istore_n 1, 1) := by decide +kernel
theorem dX10_leastCuts_84 : decode cX10_leastCuts 84 = .ok (.iload 5, 2) := by decide +kernel
theorem dX10_leastCuts_86 : decode cX10_leastCuts 86 = .ok (.istore_n 2, 1) := by decide +kernel
theorem dX10_leastCuts_87 : decode cX10_leastCuts 87 = .ok (.iinc 4 1, 3) := by decide +kernel
theorem dX10_leastCuts_90 : decode cX10_leastCuts 90 = .ok (.goto (-59), 3) := by decide +kernel
theorem dX10_leastCuts_93 : decode cX10_leastCuts 93 = .ok (.iload_n 1, 1) := by decide +kernel
theorem dX10_leastCuts_94 : decode cX10_leastCuts 94 = .ok (.ireturn, 1) := by decide +kernel
theorem dX10_isCut_0 : decode cX10_isCut 0 = .ok (.iload_n 0, 1) := by decide +kernel
theorem dX10_isCut_1 : decode cX10_isCut 1 = .ok (.iload_n 1, 1) := by decide +kernel
theorem dX10_isCut_2 : decode cX10_isCut 2 = .ok (.ishr, 1) := by decide +kernel
theorem dX10_isCut_3 : decode cX10_isCut 3 = .ok (.iconst 1, 1) := by decide +kernel
theorem dX10_isCut_4 : decode cX10_isCut 4 = .ok (.iand, 1) := by decide +kernel
theorem dX10_isCut_5 : decode cX10_isCut 5 = .ok (.iconst 1, 1) := by decide +kernel
theorem dX10_isCut_6 : decode cX10_isCut 6 = .ok (.if_icmp .ne 7, 3) := by decide +kernel
theorem dX10_isCut_9 : decode cX10_isCut 9 = .ok (.iconst 1, 1) := by decide +kernel
theorem dX10_isCut_10 : decode cX10_isCut 10 = .ok (.goto 4, 3) := by decide +kernel
theorem dX10_isCut_13 : decode cX10_isCut 13 = .ok (.iconst 0, 1) := by decide +kernel
theorem dX10_isCut_14 : decode cX10_isCut 14 = .ok (.ireturn, 1) := by decide +kernel
theorem dX10_runsOffAt_0 : decode cX10_runsOffAt 0 = .ok (.aload_n 0, 1) := by decide +kernel
theorem dX10_runsOffAt_1 : decode cX10_runsOffAt 1 = .ok (.iload_n 1, 1) := by decide +kernel
theorem dX10_runsOffAt_2 : decode cX10_runsOffAt 2 = .ok (.invokevirtual 36, 3) := by decide +kernel
theorem dX10_runsOffAt_5 : decode cX10_runsOffAt 5 = .ok (.ifCond .eq 22, 3) := by decide +kernel
theorem dX10_runsOffAt_8 : decode cX10_runsOffAt 8 = .ok (.aload_n 0, 1) := by decide +kernel
theorem dX10_runsOffAt_9 : decode cX10_runsOffAt 9 = .ok (.getfield 22, 3) := by decide +kernel
theorem dX10_runsOffAt_12 : decode cX10_runsOffAt 12 = .ok (.iload_n 1, 1) := by decide +kernel
theorem dX10_runsOffAt_13 : decode cX10_runsOffAt 13 = .ok (.iaload, 1) := by decide +kernel
theorem dX10_runsOffAt_14 : decode cX10_runsOffAt 14 = .ok (.aload_n 0, 1) := by decide +kernel
theorem dX10_runsOffAt_15 : decode cX10_runsOffAt 15 = .ok (.getfield 19, 3) := by decide +kernel
theorem dX10_runsOffAt_18 : decode cX10_runsOffAt 18 = .ok (.iload_n 1, 1) := by decide +kernel
theorem dX10_runsOffAt_19 : decode cX10_runsOffAt 19 = .ok (.iaload, 1) := by decide +kernel
theorem dX10_runsOffAt_20 : decode cX10_runsOffAt 20 = .ok (.imul, 1) := by decide +kernel
theorem dX10_runsOffAt_21 : decode cX10_runsOffAt 21 = .ok (.bipush 100, 2) := by decide +kernel
theorem dX10_runsOffAt_23 : decode cX10_runsOffAt 23 = .ok (.idiv, 1) := by decide +kernel
theorem dX10_runsOffAt_24 : decode cX10_runsOffAt 24 = .ok (.goto 4, 3) := by decide +kernel
theorem dX10_runsOffAt_28 : decode cX10_runsOffAt 28 = .ok (.ireturn, 1) := by decide +kernel
theorem dX11_isFrom_0 : decode cX11_isFrom 0 = .ok (.iload_n 1, 1) := by decide +kernel
theorem dX11_isFrom_1 : decode cX11_isFrom 1 = .ok (.iload_n 0, 1) := by decide +kernel
theorem dX11_isFrom_2 : decode cX11_isFrom 2 = .ok (.if_icmp .lt 12, 3) := by decide +kernel
theorem dX11_isFrom_5 : decode cX11_isFrom 5 = .ok (.iload_n 1, 1) := by decide +kernel
theorem dX11_isFrom_6 : decode cX11_isFrom 6 = .ok (.iload_n 2, 1) := by decide +kernel
theorem dX11_isFrom_7 : decode cX11_isFrom 7 = .ok (.if_icmp .gt 7, 3) := by decide +kernel
theorem dX11_isFrom_10 : decode cX11_isFrom 10 = .ok (.iconst 1, 1) := by decide +kernel
theorem dX11_isFrom_11 : decode cX11_isFrom 11 = .ok (.goto 4, 3) := by decide +kernel
theorem dX11_isFrom_14 : decode cX11_isFrom 14 = .ok (.iconst 0, 1) := by decide +kernel
theorem dX11_isFrom_15 : decode cX11_isFrom 15 = .ok (.ireturn, 1) := by decide +kernel
theorem dX11_rest_0 : decode cX11_rest 0 = .ok (.iload_n 1, 1) := by decide +kernel
theorem dX11_rest_1 : decode cX11_rest 1 = .ok (.ifCond .gt 5, 3) := by decide +kernel
theorem dX11_rest_4 : decode cX11_rest 4 = .ok (.iconst 0, 1) := by decide +kernel
theorem dX11_rest_5 : decode cX11_rest 5 = .ok (.ireturn, 1) := by decide +kernel
theorem dX11_rest_6 : decode cX11_rest 6 = .ok (.iload_n 0, 1) := by decide +kernel
theorem dX11_rest_7 : decode cX11_rest 7 = .ok (.iload_n 1, 1) := by decide +kernel
theorem dX11_rest_8 : decode cX11_rest 8 = .ok (.irem, 1) := by decide +kernel
theorem dX11_rest_9 : decode cX11_rest 9 = .ok (.istore_n 2, 1) := by decide +kernel
theorem dX11_rest_10 : decode cX11_rest 10 = .ok (.iload_n 2, 1) := by decide +kernel
theorem dX11_rest_11 : decode cX11_rest 11 = .ok (.ifCond .ge 9, 3) := by decide +kernel
theorem dX11_rest_14 : decode cX11_rest 14 = .ok (.iload_n 2, 1) := by decide +kernel
theorem dX11_rest_15 : decode cX11_rest 15 = .ok (.iload_n 1, 1) := by decide +kernel
theorem dX11_rest_16 : decode cX11_rest 16 = .ok (.iadd, 1) := by decide +kernel
theorem dX11_rest_17 : decode cX11_rest 17 = .ok (.goto 4, 3) := by decide +kernel
theorem dX11_rest_20 : decode cX11_rest 20 = .ok (.iload_n 2, 1) := by decide +kernel
theorem dX11_rest_21 : decode cX11_rest 21 = .ok (.ireturn, 1) := by decide +kernel
theorem dX11_cutUp_0 : decode cX11_cutUp 0 = .ok (.iload_n 1, 1) := by decide +kernel
theorem dX11_cutUp_1 : decode cX11_cutUp 1 = .ok (.ifCond .gt 7, 3) := by decide +kernel
theorem dX11_cutUp_4 : decode cX11_cutUp 4 = .ok (.iconst 0, 1) := by decide +kernel
theorem dX11_cutUp_5 : decode cX11_cutUp 5 = .ok (.goto 10, 3) := by decide +kernel
theorem dX11_cutUp_8 : decode cX11_cutUp 8 = .ok (.iload_n 0, 1) := by decide +kernel
theorem dX11_cutUp_9 : decode cX11_cutUp 9 = .ok (.iload_n 1, 1) := by decide +kernel
theorem dX11_cutUp_10 : decode cX11_cutUp 10 = .ok (.iadd, 1) := by decide +kernel
theorem dX11_cutUp_11 : decode cX11_cutUp 11 = .ok (.iconst 1, 1) := by decide +kernel
theorem dX11_cutUp_12 : decode cX11_cutUp 12 = .ok (.isub, 1) := by decide +kernel
theorem dX11_cutUp_13 : decode cX11_cutUp 13 = .ok (.iload_n 1, 1) := by decide +kernel
theorem dX11_cutUp_14 : decode cX11_cutUp 14 = .ok (.idiv, 1) := by decide +kernel
theorem dX11_cutUp_15 : decode cX11_cutUp 15 = .ok (.ireturn, 1) := by decide +kernel
theorem dJ6_bitCount_0f7a4_0 : decode cJ6_bitCount_0f7a4 0 = .ok (.iload_n 0, 1) := by decide +kernel
theorem dJ6_bitCount_0f7a4_1 : decode cJ6_bitCount_0f7a4 1 = .ok (.iload_n 0, 1) := by decide +kernel
theorem dJ6_bitCount_0f7a4_2 : decode cJ6_bitCount_0f7a4 2 = .ok (.iconst 1, 1) := by decide +kernel
theorem dJ6_bitCount_0f7a4_3 : decode cJ6_bitCount_0f7a4 3 = .ok (.iushr, 1) := by decide +kernel
theorem dJ6_bitCount_0f7a4_4 : decode cJ6_bitCount_0f7a4 4 = .ok (.ldc_w 265, 3) := by decide +kernel
theorem dJ6_bitCount_0f7a4_7 : decode cJ6_bitCount_0f7a4 7 = .ok (.iand, 1) := by decide +kernel
theorem dJ6_bitCount_0f7a4_8 : decode cJ6_bitCount_0f7a4 8 = .ok (.isub, 1) := by decide +kernel
theorem dJ6_bitCount_0f7a4_9 : decode cJ6_bitCount_0f7a4 9 = .ok (.istore_n 0, 1) := by decide +kernel
theorem dJ6_bitCount_0f7a4_10 : decode cJ6_bitCount_0f7a4 10 = .ok (.iload_n 0, 1) := by decide +kernel
theorem dJ6_bitCount_0f7a4_11 : decode cJ6_bitCount_0f7a4 11 = .ok (.ldc_w 266, 3) := by decide +kernel
theorem dJ6_bitCount_0f7a4_14 : decode cJ6_bitCount_0f7a4 14 = .ok (.iand, 1) := by decide +kernel
theorem dJ6_bitCount_0f7a4_15 : decode cJ6_bitCount_0f7a4 15 = .ok (.iload_n 0, 1) := by decide +kernel
theorem dJ6_bitCount_0f7a4_16 : decode cJ6_bitCount_0f7a4 16 = .ok (.iconst 2, 1) := by decide +kernel
theorem dJ6_bitCount_0f7a4_17 : decode cJ6_bitCount_0f7a4 17 = .ok (.iushr, 1) := by decide +kernel
theorem dJ6_bitCount_0f7a4_18 : decode cJ6_bitCount_0f7a4 18 = .ok (.ldc_w 266, 3) := by decide +kernel
theorem dJ6_bitCount_0f7a4_21 : decode cJ6_bitCount_0f7a4 21 = .ok (.iand, 1) := by decide +kernel
theorem dJ6_bitCount_0f7a4_22 : decode cJ6_bitCount_0f7a4 22 = .ok (.iadd, 1) := by decide +kernel
theorem dJ6_bitCount_0f7a4_23 : decode cJ6_bitCount_0f7a4 23 = .ok (.istore_n 0, 1) := by decide +kernel
theorem dJ6_bitCount_0f7a4_24 : decode cJ6_bitCount_0f7a4 24 = .ok (.iload_n 0, 1) := by decide +kernel
theorem dJ6_bitCount_0f7a4_25 : decode cJ6_bitCount_0f7a4 25 = .ok (.iload_n 0, 1) := by decide +kernel
theorem dJ6_bitCount_0f7a4_26 : decode cJ6_bitCount_0f7a4 26 = .ok (.iconst 4, 1) := by decide +kernel
theorem dJ6_bitCount_0f7a4_27 : decode cJ6_bitCount_0f7a4 27 = .ok (.iushr, 1) := by decide +kernel
theorem dJ6_bitCount_0f7a4_28 : decode cJ6_bitCount_0f7a4 28 = .ok (.iadd, 1) := by decide +kernel
theorem dJ6_bitCount_0f7a4_29 : decode cJ6_bitCount_0f7a4 29 = .ok (.ldc_w 267, 3) := by decide +kernel
theorem dJ6_bitCount_0f7a4_32 : decode cJ6_bitCount_0f7a4 32 = .ok (.iand, 1) := by decide +kernel
theorem dJ6_bitCount_0f7a4_33 : decode cJ6_bitCount_0f7a4 33 = .ok (.istore_n 0, 1) := by decide +kernel
theorem dJ6_bitCount_0f7a4_34 : decode cJ6_bitCount_0f7a4 34 = .ok (.iload_n 0, 1) := by decide +kernel
theorem dJ6_bitCount_0f7a4_35 : decode cJ6_bitCount_0f7a4 35 = .ok (.iload_n 0, 1) := by decide +kernel
theorem dJ6_bitCount_0f7a4_36 : decode cJ6_bitCount_0f7a4 36 = .ok (.bipush 8, 2) := by decide +kernel
theorem dJ6_bitCount_0f7a4_38 : decode cJ6_bitCount_0f7a4 38 = .ok (.iushr, 1) := by decide +kernel
theorem dJ6_bitCount_0f7a4_39 : decode cJ6_bitCount_0f7a4 39 = .ok (.iadd, 1) := by decide +kernel
theorem dJ6_bitCount_0f7a4_40 : decode cJ6_bitCount_0f7a4 40 = .ok (.istore_n 0, 1) := by decide +kernel
theorem dJ6_bitCount_0f7a4_41 : decode cJ6_bitCount_0f7a4 41 = .ok (.iload_n 0, 1) := by decide +kernel
theorem dJ6_bitCount_0f7a4_42 : decode cJ6_bitCount_0f7a4 42 = .ok (.iload_n 0, 1) := by decide +kernel
theorem dJ6_bitCount_0f7a4_43 : decode cJ6_bitCount_0f7a4 43 = .ok (.bipush 16, 2) := by decide +kernel
theorem dJ6_bitCount_0f7a4_45 : decode cJ6_bitCount_0f7a4 45 = .ok (.iushr, 1) := by decide +kernel
theorem dJ6_bitCount_0f7a4_46 : decode cJ6_bitCount_0f7a4 46 = .ok (.iadd, 1) := by decide +kernel
theorem dJ6_bitCount_0f7a4_47 : decode cJ6_bitCount_0f7a4 47 = .ok (.istore_n 0, 1) := by decide +kernel
theorem dJ6_bitCount_0f7a4_48 : decode cJ6_bitCount_0f7a4 48 = .ok (.iload_n 0, 1) := by decide +kernel
theorem dJ6_bitCount_0f7a4_49 : decode cJ6_bitCount_0f7a4 49 = .ok (.bipush 63, 2) := by decide +kernel
theorem dJ6_bitCount_0f7a4_51 : decode cJ6_bitCount_0f7a4 51 = .ok (.iand, 1) := by decide +kernel
theorem dJ6_bitCount_0f7a4_52 : decode cJ6_bitCount_0f7a4 52 = .ok (.ireturn, 1) := by decide +kernel
theorem dJ9_floorDiv_7cf53_0 : decode cJ9_floorDiv_7cf53 0 = .ok (.iload_n 0, 1) := by decide +kernel
theorem dJ9_floorDiv_7cf53_1 : decode cJ9_floorDiv_7cf53 1 = .ok (.iload_n 1, 1) := by decide +kernel
theorem dJ9_floorDiv_7cf53_2 : decode cJ9_floorDiv_7cf53 2 = .ok (.idiv, 1) := by decide +kernel
theorem dJ9_floorDiv_7cf53_3 : decode cJ9_floorDiv_7cf53 3 = .ok (.istore_n 2, 1) := by decide +kernel
theorem dJ9_floorDiv_7cf53_4 : decode cJ9_floorDiv_7cf53 4 = .ok (.iload_n 0, 1) := by decide +kernel
theorem dJ9_floorDiv_7cf53_5 : decode cJ9_floorDiv_7cf53 5 = .ok (.iload_n 1, 1) := by decide +kernel
theorem dJ9_floorDiv_7cf53_6 : decode cJ9_floorDiv_7cf53 6 = .ok (.ixor, 1) := by decide +kernel
theorem dJ9_floorDiv_7cf53_7 : decode cJ9_floorDiv_7cf53 7 = .ok (.ifCond .ge 14, 3) := by decide +kernel
theorem dJ9_floorDiv_7cf53_10 : decode cJ9_floorDiv_7cf53 10 = .ok (.iload_n 2, 1) := by decide +kernel
theorem dJ9_floorDiv_7cf53_11 : decode cJ9_floorDiv_7cf53 11 = .ok (.iload_n 1, 1) := by decide +kernel
theorem dJ9_floorDiv_7cf53_12 : decode cJ9_floorDiv_7cf53 12 = .ok (.imul, 1) := by decide +kernel
theorem dJ9_floorDiv_7cf53_13 : decode cJ9_floorDiv_7cf53 13 = .ok (.iload_n 0, 1) := by decide +kernel
theorem dJ9_floorDiv_7cf53_14 : decode cJ9_floorDiv_7cf53 14 = .ok (.if_icmp .eq 7, 3) := by decide +kernel
theorem dJ9_floorDiv_7cf53_17 : decode cJ9_floorDiv_7cf53 17 = .ok (.iload_n 2, 1) := by decide +kernel
theorem dJ9_floorDiv_7cf53_18 : decode cJ9_floorDiv_7cf53 18 = .ok (.iconst 1, 1) := by decide +kernel
theorem dJ9_floorDiv_7cf53_19 : decode cJ9_floorDiv_7cf53 19 = .ok (.isub, 1) := by decide +kernel
theorem dJ9_floorDiv_7cf53_20 : decode cJ9_floorDiv_7cf53 20 = .ok (.ireturn, 1) := by decide +kernel
theorem dJ9_floorDiv_7cf53_21 : decode cJ9_floorDiv_7cf53 21 = .ok (.iload_n 2, 1) := by decide +kernel
theorem dJ9_floorDiv_7cf53_22 : decode cJ9_floorDiv_7cf53 22 = .ok (.ireturn, 1) := by decide +kernel
theorem dJ9_floorMod_7cf53_0 : decode cJ9_floorMod_7cf53 0 = .ok (.iload_n 0, 1) := by decide +kernel
theorem dJ9_floorMod_7cf53_1 : decode cJ9_floorMod_7cf53 1 = .ok (.iload_n 1, 1) := by decide +kernel
theorem dJ9_floorMod_7cf53_2 : decode cJ9_floorMod_7cf53 2 = .ok (.irem, 1) := by decide +kernel
theorem dJ9_floorMod_7cf53_3 : decode cJ9_floorMod_7cf53 3 = .ok (.istore_n 2, 1) := by decide +kernel
theorem dJ9_floorMod_7cf53_4 : decode cJ9_floorMod_7cf53 4 = .ok (.iload_n 0, 1) := by decide +kernel
theorem dJ9_floorMod_7cf53_5 : decode cJ9_floorMod_7cf53 5 = .ok (.iload_n 1, 1) := by decide +kernel
theorem dJ9_floorMod_7cf53_6 : decode cJ9_floorMod_7cf53 6 = .ok (.ixor, 1) := by decide +kernel
theorem dJ9_floorMod_7cf53_7 : decode cJ9_floorMod_7cf53 7 = .ok (.ifCond .ge 11, 3) := by decide +kernel
theorem dJ9_floorMod_7cf53_10 : decode cJ9_floorMod_7cf53 10 = .ok (.iload_n 2, 1) := by decide +kernel
theorem dJ9_floorMod_7cf53_11 : decode cJ9_floorMod_7cf53 11 = .ok (.ifCond .eq 7, 3) := by decide +kernel
theorem dJ9_floorMod_7cf53_14 : decode cJ9_floorMod_7cf53 14 = .ok (.iload_n 2, 1) := by decide +kernel
theorem dJ9_floorMod_7cf53_15 : decode cJ9_floorMod_7cf53 15 = .ok (.iload_n 1, 1) := by decide +kernel
theorem dJ9_floorMod_7cf53_16 : decode cJ9_floorMod_7cf53 16 = .ok (.iadd, 1) := by decide +kernel
theorem dJ9_floorMod_7cf53_17 : decode cJ9_floorMod_7cf53 17 = .ok (.ireturn, 1) := by decide +kernel
theorem dJ9_floorMod_7cf53_18 : decode cJ9_floorMod_7cf53 18 = .ok (.iload_n 2, 1) := by decide +kernel
theorem dJ9_floorMod_7cf53_19 : decode cJ9_floorMod_7cf53 19 = .ok (.ireturn, 1) := by decide +kernel
theorem dJ0_length_8abf5_0 : decode cJ0_length_8abf5 0 = .ok (.aload_n 0, 1) := by decide +kernel
theorem dJ0_length_8abf5_1 : decode cJ0_length_8abf5 1 = .ok (.getfield 9, 3) := by decide +kernel
theorem dJ0_length_8abf5_4 : decode cJ0_length_8abf5 4 = .ok (.arraylength, 1) := by decide +kernel
theorem dJ0_length_8abf5_5 : decode cJ0_length_8abf5 5 = .ok (.aload_n 0, 1) := by decide +kernel
theorem dJ0_length_8abf5_6 : decode cJ0_length_8abf5 6 = .ok (.invokevirtual 335, 3) := by decide +kernel
theorem dJ0_length_8abf5_9 : decode cJ0_length_8abf5 9 = .ok (.ishr, 1) := by decide +kernel
theorem dJ0_length_8abf5_10 : decode cJ0_length_8abf5 10 = .ok (.ireturn, 1) := by decide +kernel
theorem dJ0_charAt_5068e_0 : decode cJ0_charAt_5068e 0 = .ok (.aload_n 0, 1) := by decide +kernel
theorem dJ0_charAt_5068e_1 : decode cJ0_charAt_5068e 1 = .ok (.invokevirtual 492, 3) := by decide +kernel
theorem dJ0_charAt_5068e_4 : decode cJ0_charAt_5068e 4 = .ok (.ifCond .eq 12, 3) := by decide +kernel
theorem dJ0_charAt_5068e_7 : decode cJ0_charAt_5068e 7 = .ok (.aload_n 0, 1) := by decide +kernel
theorem dJ0_charAt_5068e_8 : decode cJ0_charAt_5068e 8 = .ok (.getfield 9, 3) := by decide +kernel
theorem dJ0_charAt_5068e_11 : decode cJ0_charAt_5068e 11 = .ok (.iload_n 1, 1) := by decide +kernel
theorem dJ0_charAt_5068e_12 : decode cJ0_charAt_5068e 12 = .ok (.invokestatic 495, 3) := by decide +kernel
theorem dJ0_charAt_5068e_15 : decode cJ0_charAt_5068e 15 = .ok (.ireturn, 1) := by decide +kernel
theorem dJ0_coder_7d493_0 : decode cJ0_coder_7d493 0 = .ok (.getstatic 38, 3) := by decide +kernel
theorem dJ0_coder_7d493_3 : decode cJ0_coder_7d493 3 = .ok (.ifCond .eq 10, 3) := by decide +kernel
theorem dJ0_coder_7d493_6 : decode cJ0_coder_7d493 6 = .ok (.aload_n 0, 1) := by decide +kernel
theorem dJ0_coder_7d493_7 : decode cJ0_coder_7d493 7 = .ok (.getfield 15, 3) := by decide +kernel
theorem dJ0_coder_7d493_10 : decode cJ0_coder_7d493 10 = .ok (.goto 4, 3) := by decide +kernel
theorem dJ0_coder_7d493_14 : decode cJ0_coder_7d493 14 = .ok (.ireturn, 1) := by decide +kernel
theorem dJ0_isLatin1_aae02_0 : decode cJ0_isLatin1_aae02 0 = .ok (.getstatic 38, 3) := by decide +kernel
theorem dJ0_isLatin1_aae02_3 : decode cJ0_isLatin1_aae02 3 = .ok (.ifCond .eq 14, 3) := by decide +kernel
theorem dJ0_isLatin1_aae02_6 : decode cJ0_isLatin1_aae02 6 = .ok (.aload_n 0, 1) := by decide +kernel
theorem dJ0_isLatin1_aae02_7 : decode cJ0_isLatin1_aae02 7 = .ok (.getfield 15, 3) := by decide +kernel
theorem dJ0_isLatin1_aae02_10 : decode cJ0_isLatin1_aae02 10 = .ok (.ifCond .ne 7, 3) := by decide +kernel
theorem dJ0_isLatin1_aae02_13 : decode cJ0_isLatin1_aae02 13 = .ok (.iconst 1, 1) := by decide +kernel
theorem dJ0_isLatin1_aae02_14 : decode cJ0_isLatin1_aae02 14 = .ok (.goto 4, 3) := by decide +kernel
theorem dJ0_isLatin1_aae02_18 : decode cJ0_isLatin1_aae02 18 = .ok (.ireturn, 1) := by decide +kernel
theorem dJ0_checkIndex_df160_0 : decode cJ0_checkIndex_df160 0 = .ok (.iload_n 0, 1) := by decide +kernel
theorem dJ0_checkIndex_df160_1 : decode cJ0_checkIndex_df160 1 = .ok (.iload_n 1, 1) := by decide +kernel
theorem dJ0_checkIndex_df160_2 : decode cJ0_checkIndex_df160 2 = .ok (.getstatic 1053, 3) := by decide +kernel
theorem dJ0_checkIndex_df160_5 : decode cJ0_checkIndex_df160 5 = .ok (.invokestatic 1059, 3) := by decide +kernel
theorem dJ0_checkIndex_df160_8 : decode cJ0_checkIndex_df160 8 = .ok (.pop, 1) := by decide +kernel
theorem dJ0_checkIndex_df160_9 : decode cJ0_checkIndex_df160 9 = .ok (.return_, 1) := by decide +kernel
theorem dJ1_charAt_3b067_0 : decode cJ1_charAt_3b067 0 = .ok (.iload_n 1, 1) := by decide +kernel
theorem dJ1_charAt_3b067_1 : decode cJ1_charAt_3b067 1 = .ok (.aload_n 0, 1) := by decide +kernel
theorem dJ1_charAt_3b067_2 : decode cJ1_charAt_3b067 2 = .ok (.arraylength, 1) := by decide +kernel
theorem dJ1_charAt_3b067_3 : decode cJ1_charAt_3b067 3 = .ok (.invokestatic 9, 3) := by decide +kernel
theorem dJ1_charAt_3b067_6 : decode cJ1_charAt_3b067 6 = .ok (.aload_n 0, 1) := by decide +kernel
theorem dJ1_charAt_3b067_7 : decode cJ1_charAt_3b067 7 = .ok (.iload_n 1, 1) := by decide +kernel
theorem dJ1_charAt_3b067_8 : decode cJ1_charAt_3b067 8 = .ok (.baload, 1) := by decide +kernel
theorem dJ1_charAt_3b067_9 : decode cJ1_charAt_3b067 9 = .ok (.sipush 255, 3) := by decide +kernel
theorem dJ1_charAt_3b067_12 : decode cJ1_charAt_3b067 12 = .ok (.iand, 1) := by decide +kernel
theorem dJ1_charAt_3b067_13 : decode cJ1_charAt_3b067 13 = .ok (.i2c, 1) := by decide +kernel
theorem dJ1_charAt_3b067_14 : decode cJ1_charAt_3b067 14 = .ok (.ireturn, 1) := by decide +kernel
theorem dJ3_checkIndex_8e157_0 : decode cJ3_checkIndex_8e157 0 = .ok (.iload_n 0, 1) := by decide +kernel
theorem dJ3_checkIndex_8e157_1 : decode cJ3_checkIndex_8e157 1 = .ok (.ifCond .lt 8, 3) := by decide +kernel
theorem dJ3_checkIndex_8e157_4 : decode cJ3_checkIndex_8e157 4 = .ok (.iload_n 0, 1) := by decide +kernel
theorem dJ3_checkIndex_8e157_5 : decode cJ3_checkIndex_8e157 5 = .ok (.iload_n 1, 1) := by decide +kernel
theorem dJ3_checkIndex_8e157_6 : decode cJ3_checkIndex_8e157 6 = .ok (.if_icmp .lt 10, 3) := by decide +kernel
theorem dJ3_checkIndex_8e157_16 : decode cJ3_checkIndex_8e157 16 = .ok (.iload_n 0, 1) := by decide +kernel
theorem dJ3_checkIndex_8e157_17 : decode cJ3_checkIndex_8e157 17 = .ok (.ireturn, 1) := by decide +kernel
