theorem dX10_shownWith_46 : decode cX10_shownWith 46 = .ok (.istore_n 3, 1) := by decide +kernel
theorem dX10_shownWith_47 : decode cX10_shownWith 47 = .ok (.iload_n 2, 1) := by decide +kernel
theorem dX10_shownWith_48 : decode cX10_shownWith 48 = .ok (.iload_n 3, 1) := by decide +kernel
theorem dX10_shownWith_49 : decode cX10_shownWith 49 = .ok (.invokestatic 75, 3) := by decide +kernel
theorem dX10_shownWith_52 : decode cX10_shownWith 52 = .ok (.iadd, 1) := by decide +kernel
theorem dX10_shownWith_53 : decode cX10_shownWith 53 = .ok (.istore_n 2, 1) := by decide +kernel
theorem dX10_shownWith_54 : decode cX10_shownWith 54 = .ok (.iinc 4 1, 3) := by decide +kernel
theorem dX10_shownWith_57 : decode cX10_shownWith 57 = .ok (.goto (-50), 3) := by decide +kernel
theorem dX10_shownWith_60 : decode cX10_shownWith 60 = .ok (.iload_n 2, 1) := by decide +kernel
theorem dX10_shownWith_61 : decode cX10_shownWith 61 = .ok (.ireturn, 1) := by decide +kernel
theorem dX10_isCut_0 : decode cX10_isCut 0 = .ok (.iload_n 0, 1) := by decide +kernel
theorem dX10_isCut_1 : decode cX10_isCut 1 = .ok (.iload_n 1, 1) := by decide +kernel
theorem dX10_isCut_2 : decode cX10_isCut 2 = .ok (.ishr, 1) := by decide +kernel
theorem dX10_isCut_3 : decode cX10_isCut 3 = .ok (.iconst 1, 1) := by decide +kernel
theorem dX10_isCut_4 : decode cX10_isCut 4 = .ok (.iand, 1) := by decide +kernel
theorem dX10_isCut_5 : decode cX10_isCut 5 = .ok (.iconst 1, 1) := by decide +kernel
theorem dX10_isCut_6 : decode cX10_isCut 6 = .ok (.if_icmp .ne 7, 3) := by decide +kernel
theorem dX10_isCut_9 : decode cX10_isCut 9 = .ok (.iconst 1, 1) := by decide +kernel
theorem dX10_isCut_10 : decode cX10_isCut 10 = .ok (.goto 4, 3) := by decide +kernel
theorem dX10_isCut_13 : decode cX10_isCut 13 = .ok (.iconst 0, 1) := by decide +kernel
theorem dX10_isCut_14 : decode cX10_isCut 14 = .ok (.ireturn, 1) := by decide +kernel
theorem dX10_runsOffAt_0 : decode cX10_runsOffAt 0 = .ok (.aload_n 0, 1) := by decide +kernel
theorem dX10_runsOffAt_1 : decode cX10_runsOffAt 1 = .ok (.iload_n 1, 1) := by decide +kernel
theorem dX10_runsOffAt_2 : decode cX10_runsOffAt 2 = .ok (.invokevirtual 36, 3) := by decide +kernel
theorem dX10_runsOffAt_5 : decode cX10_runsOffAt 5 = .ok (.ifCond .eq 22, 3) := by decide +kernel
theorem dX10_runsOffAt_8 : decode cX10_runsOffAt 8 = .ok (.aload_n 0, 1) := by decide +kernel
theorem dX10_runsOffAt_9 : decode cX10_runsOffAt 9 = .ok (.getfield 22, 3) := by decide +kernel
theorem dX10_runsOffAt_12 : decode cX10_runsOffAt 12 = .ok (.iload_n 1, 1) := by decide +kernel
theorem dX10_runsOffAt_13 : decode cX10_runsOffAt 13 = .ok (.iaload, 1) := by decide +kernel
theorem dX10_runsOffAt_14 : decode cX10_runsOffAt 14 = .ok (.aload_n 0, 1) := by decide +kernel
theorem dX10_runsOffAt_15 : decode cX10_runsOffAt 15 = .ok (.getfield 19, 3) := by decide +kernel
theorem dX10_runsOffAt_18 : decode cX10_runsOffAt 18 = .ok (.iload_n 1, 1) := by decide +kernel
theorem dX10_runsOffAt_19 : decode cX10_runsOffAt 19 = .ok (.iaload, 1) := by decide +kernel
theorem dX10_runsOffAt_20 : decode cX10_runsOffAt 20 = .ok (.imul, 1) := by decide +kernel
theorem dX10_runsOffAt_21 : decode cX10_runsOffAt 21 = .ok (.bipush 100, 2) := by decide +kernel
theorem dX10_runsOffAt_23 : decode cX10_runsOffAt 23 = .ok (.idiv, 1) := by decide +kernel
theorem dX10_runsOffAt_24 : decode cX10_runsOffAt 24 = .ok (.goto 4, 3) := by decide +kernel
theorem dX10_runsOffAt_27 : decode cX10_runsOffAt 27 = .ok (.iconst 0, 1) := by decide +kernel
theorem dX10_runsOffAt_28 : decode cX10_runsOffAt 28 = .ok (.ireturn, 1) := by decide +kernel
theorem dX11_isFrom_0 : decode cX11_isFrom 0 = .ok (.iload_n 1, 1) := by decide +kernel
theorem dX11_isFrom_1 : decode cX11_isFrom 1 = .ok (.iload_n 0, 1) := by decide +kernel
theorem dX11_isFrom_2 : decode cX11_isFrom 2 = .ok (.if_icmp .lt 12, 3) := by decide +kernel
theorem dX11_isFrom_5 : decode cX11_isFrom 5 = .ok (.iload_n 1, 1) := by decide +kernel
theorem dX11_isFrom_6 : decode cX11_isFrom 6 = .ok (.iload_n 2, 1) := by decide +kernel
theorem dX11_isFrom_7 : decode cX11_isFrom 7 = .ok (.if_icmp .gt 7, 3) := by decide +kernel
theorem dX11_isFrom_10 : decode cX11_isFrom 10 = .ok (.iconst 1, 1) := by decide +kernel
theorem dX11_isFrom_11 : decode cX11_isFrom 11 = .ok (.goto 4, 3) := by decide +kernel
theorem dX11_isFrom_14 : decode cX11_isFrom 14 = .ok (.iconst 0, 1) := by decide +kernel
theorem dX11_isFrom_15 : decode cX11_isFrom 15 = .ok (.ireturn, 1) := by decide +kernel
theorem dX11_rest_0 : decode cX11_rest 0 = .ok (.iload_n 1, 1) := by decide +kernel
theorem dX11_rest_1 : decode cX11_rest 1 = .ok (.ifCond .gt 5, 3) := by decide +kernel
theorem dX11_rest_4 : decode cX11_rest 4 = .ok (.iconst 0, 1) := by decide +kernel
theorem dX11_rest_5 : decode cX11_rest 5 = .ok (.ireturn, 1) := by decide +kernel
theorem dX11_rest_6 : decode cX11_rest 6 = .ok (.iload_n 0, 1) := by decide +kernel
theorem dX11_rest_7 : decode cX11_rest 7 = .ok (.iload_n 1, 1) := by decide +kernel
theorem dX11_rest_8 : decode cX11_rest 8 = .ok (.irem, 1) := by decide +kernel
theorem dX11_rest_9 : decode cX11_rest 9 = .ok (.istore_n 2, 1) := by decide +kernel
theorem dX11_rest_10 : decode cX11_rest 10 = .ok (.iload_n 2, 1) := by decide +kernel
theorem dX11_rest_11 : decode cX11_rest 11 = .ok (.ifCond .ge 9, 3) := by decide +kernel
theorem dX11_rest_14 : decode cX11_rest 14 = .ok (.iload_n 2, 1) := by decide +kernel
theorem dX11_rest_15 : decode cX11_rest 15 = .ok (.iload_n 1, 1) := by decide +kernel
theorem dX11_rest_16 : decode cX11_rest 16 = .ok (.iadd, 1) := by decide +kernel
theorem dX11_rest_17 : decode cX11_rest 17 = .ok (.goto 4, 3) := by decide +kernel
theorem dX11_rest_20 : decode cX11_rest 20 = .ok (.iload_n 2, 1) := by decide +kernel
theorem dX11_rest_21 : decode cX11_rest 21 = .ok (.ireturn, 1) := by decide +kernel
theorem dX11_cutUp_0 : decode cX11_cutUp 0 = .ok (.iload_n 1, 1) := by decide +kernel
theorem dX11_cutUp_1 : decode cX11_cutUp 1 = .ok (.ifCond .gt 7, 3) := by decide +kernel
theorem dX11_cutUp_4 : decode cX11_cutUp 4 = .ok (.iconst 0, 1) := by decide +kernel
theorem dX11_cutUp_5 : decode cX11_cutUp 5 = .ok (.goto 10, 3) := by decide +kernel
theorem dX11_cutUp_8 : decode cX11_cutUp 8 = .ok (.iload_n 0, 1) := by decide +kernel
theorem dX11_cutUp_9 : decode cX11_cutUp 9 = .ok (.iload_n 1, 1) := by decide +kernel
theorem dX11_cutUp_10 : decode cX11_cutUp 10 = .ok (.iadd, 1) := by decide +kernel
theorem dX11_cutUp_11 : decode cX11_cutUp 11 = .ok (.iconst 1, 1) := by decide +kernel
theorem dX11_cutUp_12 : decode cX11_cutUp 12 = .ok (.isub, 1) := by decide +kernel
theorem dX11_cutUp_13 : decode cX11_cutUp 13 = .ok (.iload_n 1, 1) := by decide +kernel
theorem dX11_cutUp_14 : decode cX11_cutUp 14 = .ok (.idiv, 1) := by decide +kernel
theorem dX11_cutUp_15 : decode cX11_cutUp 15 = .ok (.ireturn, 1) := by decide +kernel
