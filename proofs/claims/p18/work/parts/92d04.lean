theorem dX12_runsOf_58 : decode cX12_runsOf 58 = .ok (.iconst 1, 1) := by decide +kernel
theorem dX12_runsOf_59 : decode cX12_runsOf 59 = .ok (.isub, 1) := by decide +kernel
theorem dX12_runsOf_60 : decode cX12_runsOf 60 = .ok (.ishr, 1) := by decide +kernel
theorem dX12_runsOf_61 : decode cX12_runsOf 61 = .ok (.iconst 1, 1) := by decide +kernel
theorem dX12_runsOf_62 : decode cX12_runsOf 62 = .ok (.iand, 1) := by decide +kernel
theorem dX12_runsOf_63 : decode cX12_runsOf 63 = .ok (.iconst 1, 1) := by decide +kernel
theorem dX12_runsOf_64 : decode cX12_runsOf 64 = .ok (.if_icmp .ne 16, 3) := by decide +kernel
theorem dX12_runsOf_67 : decode cX12_runsOf 67 = .ok (.iload_n 3, 1) := by decide +kernel
theorem dX12_runsOf_68 : decode cX12_runsOf 68 = .ok (.iconst 2, 1) := by decide +kernel
theorem dX12_runsOf_69 : decode cX12_runsOf 69 = .ok (.iload 4, 2) := by decide +kernel
theorem dX12_runsOf_71 : decode cX12_runsOf 71 = .ok (.invokestatic 422, 3) := by decide +kernel
theorem dX12_runsOf_74 : decode cX12_runsOf 74 = .ok (.imul, 1) := by decide +kernel
theorem dX12_runsOf_75 : decode cX12_runsOf 75 = .ok (.iadd, 1) := by decide +kernel
theorem dX12_runsOf_76 : decode cX12_runsOf 76 = .ok (.istore_n 3, 1) := by decide +kernel
theorem dX12_runsOf_77 : decode cX12_runsOf 77 = .ok (.iconst 0, 1) := by decide +kernel
theorem dX12_runsOf_78 : decode cX12_runsOf 78 = .ok (.istore 4, 2) := by decide +kernel
theorem dX12_runsOf_80 : decode cX12_runsOf 80 = .ok (.aload_n 0, 1) := by decide +kernel
theorem dX12_runsOf_81 : decode cX12_runsOf 81 = .ok (.getfield 152, 3) := by decide +kernel
theorem dX12_runsOf_84 : decode cX12_runsOf 84 = .ok (.iload 5, 2) := by decide +kernel
theorem dX12_runsOf_86 : decode cX12_runsOf 86 = .ok (.iload 4, 2) := by decide +kernel
theorem dX12_runsOf_88 : decode cX12_runsOf 88 = .ok (.iastore, 1) := by decide +kernel
theorem dX12_runsOf_89 : decode cX12_runsOf 89 = .ok (.iload_n 3, 1) := by decide +kernel
theorem dX12_runsOf_90 : decode cX12_runsOf 90 = .ok (.iload 4, 2) := by decide +kernel
theorem dX12_runsOf_92 : decode cX12_runsOf 92 = .ok (.invokestatic 422, 3) := by decide +kernel
theorem dX12_runsOf_95 : decode cX12_runsOf 95 = .ok (.iadd, 1) := by decide +kernel
theorem dX12_runsOf_96 : decode cX12_runsOf 96 = .ok (.istore_n 3, 1) := by decide +kernel
theorem dX12_runsOf_97 : decode cX12_runsOf 97 = .ok (.iinc 5 1, 3) := by decide +kernel
theorem dX12_runsOf_100 : decode cX12_runsOf 100 = .ok (.goto (-92), 3) := by decide +kernel
theorem dX12_runsOf_103 : decode cX12_runsOf 103 = .ok (.iload_n 3, 1) := by decide +kernel
theorem dX12_runsOf_104 : decode cX12_runsOf 104 = .ok (.ireturn, 1) := by decide +kernel
theorem dX12_areCuts_0 : decode cX12_areCuts 0 = .ok (.aload_n 0, 1) := by decide +kernel
theorem dX12_areCuts_1 : decode cX12_areCuts 1 = .ok (.iload_n 1, 1) := by decide +kernel
theorem dX12_areCuts_2 : decode cX12_areCuts 2 = .ok (.invokevirtual 284, 3) := by decide +kernel
theorem dX12_areCuts_5 : decode cX12_areCuts 5 = .ok (.ifCond .eq 29, 3) := by decide +kernel
theorem dX12_areCuts_8 : decode cX12_areCuts 8 = .ok (.iload_n 2, 1) := by decide +kernel
theorem dX12_areCuts_9 : decode cX12_areCuts 9 = .ok (.i2l, 1) := by decide +kernel
theorem dX12_areCuts_10 : decode cX12_areCuts 10 = .ok (.lconst 0, 1) := by decide +kernel
theorem dX12_areCuts_11 : decode cX12_areCuts 11 = .ok (.iconst 1, 1) := by decide +kernel
theorem dX12_areCuts_12 : decode cX12_areCuts 12 = .ok (.aload_n 0, 1) := by decide +kernel
theorem dX12_areCuts_13 : decode cX12_areCuts 13 = .ok (.getfield 50, 3) := by decide +kernel
theorem dX12_areCuts_16 : decode cX12_areCuts 16 = .ok (.iload_n 1, 1) := by decide +kernel
theorem dX12_areCuts_17 : decode cX12_areCuts 17 = .ok (.iaload, 1) := by decide +kernel
theorem dX12_areCuts_18 : decode cX12_areCuts 18 = .ok (.iconst 1, 1) := by decide +kernel
theorem dX12_areCuts_19 : decode cX12_areCuts 19 = .ok (.isub, 1) := by decide +kernel
theorem dX12_areCuts_20 : decode cX12_areCuts 20 = .ok (.ishl, 1) := by decide +kernel
theorem dX12_areCuts_21 : decode cX12_areCuts 21 = .ok (.iconst 1, 1) := by decide +kernel
theorem dX12_areCuts_22 : decode cX12_areCuts 22 = .ok (.isub, 1) := by decide +kernel
theorem dX12_areCuts_23 : decode cX12_areCuts 23 = .ok (.i2l, 1) := by decide +kernel
theorem dX12_areCuts_24 : decode cX12_areCuts 24 = .ok (.invokestatic 205, 3) := by decide +kernel
theorem dX12_areCuts_27 : decode cX12_areCuts 27 = .ok (.ifCond .eq 7, 3) := by decide +kernel
theorem dX12_areCuts_30 : decode cX12_areCuts 30 = .ok (.iconst 1, 1) := by decide +kernel
theorem dX12_areCuts_31 : decode cX12_areCuts 31 = .ok (.goto 4, 3) := by decide +kernel
theorem dX12_areCuts_34 : decode cX12_areCuts 34 = .ok (.iconst 0, 1) := by decide +kernel
theorem dX12_areCuts_35 : decode cX12_areCuts 35 = .ok (.ireturn, 1) := by decide +kernel
theorem dX12_shown_0 : decode cX12_shown 0 = .ok (.aload_n 0, 1) := by decide +kernel
theorem dX12_shown_1 : decode cX12_shown 1 = .ok (.iload_n 1, 1) := by decide +kernel
theorem dX12_shown_2 : decode cX12_shown 2 = .ok (.iload_n 2, 1) := by decide +kernel
theorem dX12_shown_3 : decode cX12_shown 3 = .ok (.invokevirtual 425, 3) := by decide +kernel
theorem dX12_shown_6 : decode cX12_shown 6 = .ok (.ifCond .eq 12, 3) := by decide +kernel
theorem dX12_shown_9 : decode cX12_shown 9 = .ok (.aload_n 0, 1) := by decide +kernel
theorem dX12_shown_10 : decode cX12_shown 10 = .ok (.iload_n 1, 1) := by decide +kernel
theorem dX12_shown_11 : decode cX12_shown 11 = .ok (.iload_n 2, 1) := by decide +kernel
theorem dX12_shown_12 : decode cX12_shown 12 = .ok (.invokevirtual 428, 3) := by decide +kernel
theorem dX12_shown_15 : decode cX12_shown 15 = .ok (.goto 4, 3) := by decide +kernel
theorem dX12_shown_18 : decode cX12_shown 18 = .ok (.iconst (-1), 1) := by decide +kernel
theorem dX12_shown_19 : decode cX12_shown 19 = .ok (.ireturn, 1) := by decide +kernel
theorem dX12_run_0 : decode cX12_run 0 = .ok (.aload_n 0, 1) := by decide +kernel
theorem dX12_run_1 : decode cX12_run 1 = .ok (.iload_n 1, 1) := by decide +kernel
theorem dX12_run_2 : decode cX12_run 2 = .ok (.iload_n 2, 1) := by decide +kernel
theorem dX12_run_3 : decode cX12_run 3 = .ok (.invokevirtual 425, 3) := by decide +kernel
theorem dX12_run_6 : decode cX12_run 6 = .ok (.ifCond .eq 21, 3) := by decide +kernel
theorem dX12_run_9 : decode cX12_run 9 = .ok (.iload_n 3, 1) := by decide +kernel
theorem dX12_run_10 : decode cX12_run 10 = .ok (.i2l, 1) := by decide +kernel
theorem dX12_run_11 : decode cX12_run 11 = .ok (.lconst 0, 1) := by decide +kernel
theorem dX12_run_12 : decode cX12_run 12 = .ok (.aload_n 0, 1) := by decide +kernel
theorem dX12_run_13 : decode cX12_run 13 = .ok (.getfield 50, 3) := by decide +kernel
theorem dX12_run_16 : decode cX12_run 16 = .ok (.iload_n 1, 1) := by decide +kernel
theorem dX12_run_17 : decode cX12_run 17 = .ok (.iaload, 1) := by decide +kernel
theorem dX12_run_18 : decode cX12_run 18 = .ok (.iconst 1, 1) := by decide +kernel
theorem dX12_run_19 : decode cX12_run 19 = .ok (.isub, 1) := by decide +kernel
theorem dX12_run_20 : decode cX12_run 20 = .ok (.i2l, 1) := by decide +kernel
theorem dX12_run_21 : decode cX12_run 21 = .ok (.invokestatic 205, 3) := by decide +kernel
theorem dX12_run_24 : decode cX12_run 24 = .ok (.ifCond .ne 7, 3) := by decide +kernel
theorem dX12_run_27 : decode cX12_run 27 = .ok (.ldc_w 431, 3) := by decide +kernel
theorem dX12_run_30 : decode cX12_run 30 = .ok (.ireturn, 1) := by decide +kernel
theorem dX12_run_31 : decode cX12_run 31 = .ok (.aload_n 0, 1) := by decide +kernel
theorem dX12_run_32 : decode cX12_run 32 = .ok (.iload_n 1, 1) := by decide +kernel
theorem dX12_run_33 : decode cX12_run 33 = .ok (.iload_n 2, 1) := by decide +kernel
theorem dX12_run_34 : decode cX12_run 34 = .ok (.invokevirtual 428, 3) := by decide +kernel
theorem dX12_run_37 : decode cX12_run 37 = .ok (.istore 4, 2) := by decide +kernel
theorem dX12_run_39 : decode cX12_run 39 = .ok (.aload_n 0, 1) := by decide +kernel
theorem dX12_run_40 : decode cX12_run 40 = .ok (.getfield 152, 3) := by decide +kernel
theorem dX12_run_43 : decode cX12_run 43 = .ok (.iload_n 3, 1) := by decide +kernel
theorem dX12_run_44 : decode cX12_run 44 = .ok (.iaload, 1) := by decide +kernel
theorem dX12_run_45 : decode cX12_run 45 = .ok (.ireturn, 1) := by decide +kernel
theorem dX12_cuts__0 : decode cX12_cuts_ 0 = .ok (.aload_n 0, 1) := by decide +kernel
theorem dX12_cuts__1 : decode cX12_cuts_ 1 = .ok (.iload_n 1, 1) := by decide +kernel
theorem dX12_cuts__2 : decode cX12_cuts_ 2 = .ok (.invokevirtual 284, 3) := by decide +kernel
theorem dX12_cuts__5 : decode cX12_cuts_ 5 = .ok (.ifCond .ne 5, 3) := by decide +kernel
theorem dX12_cuts__8 : decode cX12_cuts_ 8 = .ok (.iconst (-1), 1) := by decide +kernel
theorem dX12_cuts__9 : decode cX12_cuts_ 9 = .ok (.ireturn, 1) := by decide +kernel
theorem dX12_cuts__10 : decode cX12_cuts_ 10 = .ok (.iconst 0, 1) := by decide +kernel
theorem dX12_cuts__11 : decode cX12_cuts_ 11 = .ok (.istore_n 2, 1) := by decide +kernel
theorem dX12_cuts__12 : decode cX12_cuts_ 12 = .ok (.aload_n 0, 1) := by decide +kernel
theorem dX12_cuts__13 : decode cX12_cuts_ 13 = .ok (.iload_n 1, 1) := by decide +kernel
theorem dX12_cuts__14 : decode cX12_cuts_ 14 = .ok (.iconst 0, 1) := by decide +kernel
theorem dX12_cuts__15 : decode cX12_cuts_ 15 = .ok (.invokevirtual 428, 3) := by decide +kernel
theorem dX12_cuts__18 : decode cX12_cuts_ 18 = .ok (.istore_n 3, 1) := by decide +kernel
theorem dX12_cuts__19 : decode cX12_cuts_ 19 = .ok (.iconst 1, 1) := by decide +kernel
theorem dX12_cuts__20 : decode cX12_cuts_ 20 = .ok (.istore 4, 2) := by decide +kernel
theorem dX12_cuts__22 : decode cX12_cuts_ 22 = .ok (.iload 4, 2) := by decide +kernel
theorem dX12_cuts__24 : decode cX12_cuts_ 24 = .ok (.iconst 1, 1) := by decide +kernel
theorem dX12_cuts__25 : decode cX12_cuts_ 25 = .ok (.aload_n 0, 1) := by decide +kernel
theorem dX12_cuts__26 : decode cX12_cuts_ 26 = .ok (.getfield 50, 3) := by decide +kernel
theorem dX12_cuts__29 : decode cX12_cuts_ 29 = .ok (.iload_n 1, 1) := by decide +kernel
theorem dX12_cuts__30 : decode cX12_cuts_ 30 = .ok (.iaload, 1) := by decide +kernel
theorem dX12_cuts__31 : decode cX12_cuts_ 31 = .ok (.iconst 1, 1) := by decide +kernel
theorem dX12_cuts__32 : decode cX12_cuts_ 32 = .ok (.isub, 1) := by decide +kernel
theorem dX12_cuts__33 : decode cX12_cuts_ 33 = .ok (.ishl, 1) := by decide +kernel
theorem dX12_cuts__34 : decode cX12_cuts_ 34 = .ok (.if_icmp .ge 51, 3) := by decide +kernel
theorem dX12_cuts__37 : decode cX12_cuts_ 37 = .ok (.aload_n 0, 1) := by decide +kernel
theorem dX12_cuts__38 : decode cX12_cuts_ 38 = .ok (.iload_n 1, 1) := by decide +kernel
theorem dX12_cuts__39 : decode cX12_cuts_ 39 = .ok (.iload 4, 2) := by decide +kernel
theorem dX12_cuts__41 : decode cX12_cuts_ 41 = .ok (.invokevirtual 428, 3) := by decide +kernel
theorem dX12_cuts__44 : decode cX12_cuts_ 44 = .ok (.istore 5, 2) := by decide +kernel
theorem dX12_cuts__46 : decode cX12_cuts_ 46 = .ok (.iload 5, 2) := by decide +kernel
theorem dX12_cuts__48 : decode cX12_cuts_ 48 = .ok (.iload_n 3, 1) := by decide +kernel
theorem dX12_cuts__49 : decode cX12_cuts_ 49 = .ok (.if_icmp .gt 30, 3) := by decide +kernel
theorem dX12_cuts__52 : decode cX12_cuts_ 52 = .ok (.iload 5, 2) := by decide +kernel
theorem dX12_cuts__54 : decode cX12_cuts_ 54 = .ok (.iload_n 3, 1) := by decide +kernel
theorem dX12_cuts__55 : decode cX12_cuts_ 55 = .ok (.if_icmp .ne 18, 3) := by decide +kernel
theorem dX12_cuts__58 : decode cX12_cuts_ 58 = .ok (.iload 4, 2) := by decide +kernel
theorem dX12_cuts__60 : decode cX12_cuts_ 60 = .ok (.invokestatic 410, 3) := by decide +kernel
theorem dX12_cuts__63 : decode cX12_cuts_ 63 = .ok (.iload_n 2, 1) := by decide +kernel
theorem dX12_cuts__64 : decode cX12_cuts_ 64 = .ok (.invokestatic 410, 3) := by decide +kernel
theorem dX12_cuts__67 : decode cX12_cuts_ 67 = .ok (.if_icmp .lt 6, 3) := by decide +kernel
theorem dX12_cuts__70 : decode cX12_cuts_ 70 = .ok (.goto 9, 3) := by decide +kernel
theorem dX12_cuts__73 : decode cX12_cuts_ 73 = .ok (.iload 4, 2) := by decide +kernel
theorem dX12_cuts__75 : decode cX12_cuts_ 75 = .ok (.istore_n 2, 1) := by decide +kernel
theorem dX12_cuts__76 : decode cX12_cuts_ 76 = .ok (.iload 5, 2) := by decide +kernel
theorem dX12_cuts__78 : decode cX12_cuts_ 78 = .ok (.istore_n 3, 1) := by decide +kernel
theorem dX12_cuts__79 : decode cX12_cuts_ 79 = .ok (.iinc 4 1, 3) := by decide +kernel
theorem dX12_cuts__82 : decode cX12_cuts_ 82 = .ok (.goto (-60), 3) := by decide +kernel
theorem dX12_cuts__85 : decode cX12_cuts_ 85 = .ok (.iload_n 2, 1) := by decide +kernel
theorem dX12_cuts__86 : decode cX12_cuts_ 86 = .ok (.ireturn, 1) := by decide +kernel
theorem dX12_batch_0 : decode cX12_batch 0 = .ok (.aload_n 0, 1) := by decide +kernel
theorem dX12_batch_1 : decode cX12_batch 1 = .ok (.iload_n 1, 1) := by decide +kernel
theorem dX12_batch_2 : decode cX12_batch 2 = .ok (.invokevirtual 312, 3) := by decide +kernel
theorem dX12_batch_5 : decode cX12_batch 5 = .ok (.ifCond .eq 23, 3) := by decide +kernel
theorem dX12_batch_8 : decode cX12_batch 8 = .ok (.iload_n 2, 1) := by decide +kernel
theorem dX12_batch_9 : decode cX12_batch 9 = .ok (.i2l, 1) := by decide +kernel
theorem dX12_batch_10 : decode cX12_batch 10 = .ok (.lconst 1, 1) := by decide +kernel
theorem dX12_batch_11 : decode cX12_batch 11 = .ok (.ldc2_w 432, 3) := by decide +kernel
theorem dX12_batch_14 : decode cX12_batch 14 = .ok (.invokestatic 205, 3) := by decide +kernel
theorem dX12_batch_17 : decode cX12_batch 17 = .ok (.ifCond .eq 11, 3) := by decide +kernel
theorem dX12_batch_20 : decode cX12_batch 20 = .ok (.aload_n 0, 1) := by decide +kernel
theorem dX12_batch_21 : decode cX12_batch 21 = .ok (.getfield 434, 3) := by decide +kernel
theorem dX12_batch_24 : decode cX12_batch 24 = .ok (.iconst 4, 1) := by decide +kernel
theorem dX12_batch_25 : decode cX12_batch 25 = .ok (.if_icmp .ne 5, 3) := by decide +kernel
theorem dX12_batch_28 : decode cX12_batch 28 = .ok (.iconst (-1), 1) := by decide +kernel
theorem dX12_batch_29 : decode cX12_batch 29 = .ok (.ireturn, 1) := by decide +kernel
theorem dX12_batch_30 : decode cX12_batch 30 = .ok (.aload_n 0, 1) := by decide +kernel
theorem dX12_batch_31 : decode cX12_batch 31 = .ok (.getfield 155, 3) := by decide +kernel
theorem dX12_batch_34 : decode cX12_batch 34 = .ok (.aload_n 0, 1) := by decide +kernel
theorem dX12_batch_35 : decode cX12_batch 35 = .ok (.getfield 434, 3) := by decide +kernel
theorem dX12_batch_38 : decode cX12_batch 38 = .ok (.iload_n 1, 1) := by decide +kernel
theorem dX12_batch_39 : decode cX12_batch 39 = .ok (.iastore, 1) := by decide +kernel
theorem dX12_batch_40 : decode cX12_batch 40 = .ok (.aload_n 0, 1) := by decide +kernel
theorem dX12_batch_41 : decode cX12_batch 41 = .ok (.getfield 158, 3) := by decide +kernel
theorem dX12_batch_44 : decode cX12_batch 44 = .ok (.aload_n 0, 1) := by decide +kernel
theorem dX12_batch_45 : decode cX12_batch 45 = .ok (.getfield 434, 3) := by decide +kernel
theorem dX12_batch_48 : decode cX12_batch 48 = .ok (.iload_n 2, 1) := by decide +kernel
theorem dX12_batch_49 : decode cX12_batch 49 = .ok (.iastore, 1) := by decide +kernel
theorem dX12_batch_50 : decode cX12_batch 50 = .ok (.aload_n 0, 1) := by decide +kernel
theorem dX12_batch_51 : decode cX12_batch 51 = .ok (.dup, 1) := by decide +kernel
theorem dX12_batch_52 : decode cX12_batch 52 = .ok (.getfield 434, 3) := by decide +kernel
theorem dX12_batch_55 : decode cX12_batch 55 = .ok (.iconst 1, 1) := by decide +kernel
theorem dX12_batch_56 : decode cX12_batch 56 = .ok (.iadd, 1) := by decide +kernel
theorem dX12_batch_57 : decode cX12_batch 57 = .ok (.putfield 434, 3) := by decide +kernel
theorem dX12_batch_60 : decode cX12_batch 60 = .ok (.aload_n 0, 1) := by decide +kernel
theorem dX12_batch_61 : decode cX12_batch 61 = .ok (.getfield 434, 3) := by decide +kernel
theorem dX12_batch_64 : decode cX12_batch 64 = .ok (.iconst 1, 1) := by decide +kernel
theorem dX12_batch_65 : decode cX12_batch 65 = .ok (.isub, 1) := by decide +kernel
theorem dX12_batch_66 : decode cX12_batch 66 = .ok (.ireturn, 1) := by decide +kernel
theorem dX12_ownOf_0 : decode cX12_ownOf 0 = .ok (.aload_n 0, 1) := by decide +kernel
theorem dX12_ownOf_1 : decode cX12_ownOf 1 = .ok (.iconst 0, 1) := by decide +kernel
theorem dX12_ownOf_2 : decode cX12_ownOf 2 = .ok (.putfield 375, 3) := by decide +kernel
theorem dX12_ownOf_5 : decode cX12_ownOf 5 = .ok (.iconst 0, 1) := by decide +kernel
theorem dX12_ownOf_6 : decode cX12_ownOf 6 = .ok (.istore_n 3, 1) := by decide +kernel
theorem dX12_ownOf_7 : decode cX12_ownOf 7 = .ok (.iload_n 3, 1) := by decide +kernel
theorem dX12_ownOf_8 : decode cX12_ownOf 8 = .ok (.aload_n 0, 1) := by decide +kernel
theorem dX12_ownOf_9 : decode cX12_ownOf 9 = .ok (.getfield 333, 3) := by decide +kernel
theorem dX12_ownOf_12 : decode cX12_ownOf 12 = .ok (.if_icmp .ge 40, 3) := by decide +kernel
theorem dX12_ownOf_15 : decode cX12_ownOf 15 = .ok (.aload_n 0, 1) := by decide +kernel
theorem dX12_ownOf_16 : decode cX12_ownOf 16 = .ok (.iload_n 1, 1) := by decide +kernel
theorem dX12_ownOf_17 : decode cX12_ownOf 17 = .ok (.aload_n 0, 1) := by decide +kernel
theorem dX12_ownOf_18 : decode cX12_ownOf 18 = .ok (.getfield 119, 3) := by decide +kernel
theorem dX12_ownOf_21 : decode cX12_ownOf 21 = .ok (.aload_n 0, 1) := by decide +kernel
theorem dX12_ownOf_22 : decode cX12_ownOf 22 = .ok (.getfield 131, 3) := by decide +kernel
theorem dX12_ownOf_25 : decode cX12_ownOf 25 = .ok (.iload_n 3, 1) := by decide +kernel
theorem dX12_ownOf_26 : decode cX12_ownOf 26 = .ok (.iaload, 1) := by decide +kernel
theorem dX12_ownOf_27 : decode cX12_ownOf 27 = .ok (.iaload, 1) := by decide +kernel
theorem dX12_ownOf_28 : decode cX12_ownOf 28 = .ok (.invokevirtual 287, 3) := by decide +kernel
theorem dX12_ownOf_31 : decode cX12_ownOf 31 = .ok (.iload_n 2, 1) := by decide +kernel
theorem dX12_ownOf_32 : decode cX12_ownOf 32 = .ok (.if_icmp .ne 14, 3) := by decide +kernel
theorem dX12_ownOf_35 : decode cX12_ownOf 35 = .ok (.aload_n 0, 1) := by decide +kernel
theorem dX12_ownOf_36 : decode cX12_ownOf 36 = .ok (.iload_n 1, 1) := by decide +kernel
theorem dX12_ownOf_37 : decode cX12_ownOf 37 = .ok (.iload_n 3, 1) := by decide +kernel
theorem dX12_ownOf_38 : decode cX12_ownOf 38 = .ok (.invokevirtual 385, 3) := by decide +kernel
theorem dX12_ownOf_41 : decode cX12_ownOf 41 = .ok (.ifCond .ne 5, 3) := by decide +kernel
theorem dX12_ownOf_44 : decode cX12_ownOf 44 = .ok (.iconst (-1), 1) := by decide +kernel
theorem dX12_ownOf_45 : decode cX12_ownOf 45 = .ok (.ireturn, 1) := by decide +kernel
theorem dX12_ownOf_46 : decode cX12_ownOf 46 = .ok (.iinc 3 1, 3) := by decide +kernel
theorem dX12_ownOf_49 : decode cX12_ownOf 49 = .ok (.goto (-42), 3) := by decide +kernel
theorem dX12_ownOf_52 : decode cX12_ownOf 52 = .ok (.aload_n 0, 1) := by decide +kernel
theorem dX12_ownOf_53 : decode cX12_ownOf 53 = .ok (.getfield 375, 3) := by decide +kernel
theorem dX12_ownOf_56 : decode cX12_ownOf 56 = .ok (.ireturn, 1) := by decide +kernel
theorem dX12_own_0 : decode cX12_own 0 = .ok (.aload_n 0, 1) := by decide +kernel
theorem dX12_own_1 : decode cX12_own 1 = .ok (.iload_n 1, 1) := by decide +kernel
theorem dX12_own_2 : decode cX12_own 2 = .ok (.invokevirtual 362, 3) := by decide +kernel
theorem dX12_own_5 : decode cX12_own 5 = .ok (.ifCond .eq 21, 3) := by decide +kernel
theorem dX12_own_8 : decode cX12_own 8 = .ok (.iload_n 2, 1) := by decide +kernel
theorem dX12_own_9 : decode cX12_own 9 = .ok (.i2l, 1) := by decide +kernel
theorem dX12_own_10 : decode cX12_own 10 = .ok (.lconst 0, 1) := by decide +kernel
theorem dX12_own_11 : decode cX12_own 11 = .ok (.aload_n 0, 1) := by decide +kernel
theorem dX12_own_12 : decode cX12_own 12 = .ok (.getfield 50, 3) := by decide +kernel
theorem dX12_own_15 : decode cX12_own 15 = .ok (.iload_n 1, 1) := by decide +kernel
theorem dX12_own_16 : decode cX12_own 16 = .ok (.iaload, 1) := by decide +kernel
theorem dX12_own_17 : decode cX12_own 17 = .ok (.iconst 1, 1) := by decide +kernel
theorem dX12_own_18 : decode cX12_own 18 = .ok (.isub, 1) := by decide +kernel
theorem dX12_own_19 : decode cX12_own 19 = .ok (.i2l, 1) := by decide +kernel
theorem dX12_own_20 : decode cX12_own 20 = .ok (.invokestatic 205, 3) := by decide +kernel
theorem dX12_own_23 : decode cX12_own 23 = .ok (.ifCond .ne 5, 3) := by decide +kernel
theorem dX12_own_26 : decode cX12_own 26 = .ok (.iconst (-1), 1) := by decide +kernel
theorem dX12_own_27 : decode cX12_own 27 = .ok (.ireturn, 1) := by decide +kernel
theorem dX12_own_28 : decode cX12_own 28 = .ok (.aload_n 0, 1) := by decide +kernel
theorem dX12_own_29 : decode cX12_own 29 = .ok (.iload_n 1, 1) := by decide +kernel
theorem dX12_own_30 : decode cX12_own 30 = .ok (.invokevirtual 369, 3) := by decide +kernel
theorem dX12_own_33 : decode cX12_own 33 = .ok (.aload_n 0, 1) := by decide +kernel
theorem dX12_own_34 : decode cX12_own 34 = .ok (.iload_n 1, 1) := by decide +kernel
theorem dX12_own_35 : decode cX12_own 35 = .ok (.iload_n 2, 1) := by decide +kernel
theorem dX12_own_36 : decode cX12_own 36 = .ok (.invokevirtual 437, 3) := by decide +kernel
theorem dX12_own_39 : decode cX12_own 39 = .ok (.ireturn, 1) := by decide +kernel
theorem dX12_hasDoor_0 : decode cX12_hasDoor 0 = .ok (.iload_n 2, 1) := by decide +kernel
theorem dX12_hasDoor_1 : decode cX12_hasDoor 1 = .ok (.iconst 1, 1) := by decide +kernel
theorem dX12_hasDoor_2 : decode cX12_hasDoor 2 = .ok (.iadd, 1) := by decide +kernel
theorem dX12_hasDoor_3 : decode cX12_hasDoor 3 = .ok (.aload_n 0, 1) := by decide +kernel
theorem dX12_hasDoor_4 : decode cX12_hasDoor 4 = .ok (.getfield 50, 3) := by decide +kernel
theorem dX12_hasDoor_7 : decode cX12_hasDoor 7 = .ok (.iload_n 1, 1) := by decide +kernel
theorem dX12_hasDoor_8 : decode cX12_hasDoor 8 = .ok (.iaload, 1) := by decide +kernel
theorem dX12_hasDoor_9 : decode cX12_hasDoor 9 = .ok (.irem, 1) := by decide +kernel
theorem dX12_hasDoor_10 : decode cX12_hasDoor 10 = .ok (.istore_n 3, 1) := by decide +kernel
theorem dX12_hasDoor_11 : decode cX12_hasDoor 11 = .ok (.iconst 0, 1) := by decide +kernel
theorem dX12_hasDoor_12 : decode cX12_hasDoor 12 = .ok (.istore 4, 2) := by decide +kernel
theorem dX12_hasDoor_14 : decode cX12_hasDoor 14 = .ok (.iload 4, 2) := by decide +kernel
theorem dX12_hasDoor_16 : decode cX12_hasDoor 16 = .ok (.aload_n 0, 1) := by decide +kernel
theorem dX12_hasDoor_17 : decode cX12_hasDoor 17 = .ok (.getfield 54, 3) := by decide +kernel
theorem dX12_hasDoor_20 : decode cX12_hasDoor 20 = .ok (.iload_n 1, 1) := by decide +kernel
theorem dX12_hasDoor_21 : decode cX12_hasDoor 21 = .ok (.iaload, 1) := by decide +kernel
theorem dX12_hasDoor_22 : decode cX12_hasDoor 22 = .ok (.if_icmp .ge 82, 3) := by decide +kernel
theorem dX12_hasDoor_25 : decode cX12_hasDoor 25 = .ok (.aload_n 0, 1) := by decide +kernel
theorem dX12_hasDoor_26 : decode cX12_hasDoor 26 = .ok (.getfield 38, 3) := by decide +kernel
theorem dX12_hasDoor_29 : decode cX12_hasDoor 29 = .ok (.iload_n 1, 1) := by decide +kernel
theorem dX12_hasDoor_30 : decode cX12_hasDoor 30 = .ok (.aaload, 1) := by decide +kernel
theorem dX12_hasDoor_31 : decode cX12_hasDoor 31 = .ok (.iload 4, 2) := by decide +kernel
theorem dX12_hasDoor_33 : decode cX12_hasDoor 33 = .ok (.iaload, 1) := by decide +kernel
theorem dX12_hasDoor_34 : decode cX12_hasDoor 34 = .ok (.iconst 1, 1) := by decide +kernel
theorem dX12_hasDoor_35 : decode cX12_hasDoor 35 = .ok (.if_icmp .ne 63, 3) := by decide +kernel
theorem dX12_hasDoor_38 : decode cX12_hasDoor 38 = .ok (.aload_n 0, 1) := by decide +kernel
theorem dX12_hasDoor_39 : decode cX12_hasDoor 39 = .ok (.getfield 23, 3) := by decide +kernel
theorem dX12_hasDoor_42 : decode cX12_hasDoor 42 = .ok (.iload_n 1, 1) := by decide +kernel
theorem dX12_hasDoor_43 : decode cX12_hasDoor 43 = .ok (.aaload, 1) := by decide +kernel
theorem dX12_hasDoor_44 : decode cX12_hasDoor 44 = .ok (.iload 4, 2) := by decide +kernel
theorem dX12_hasDoor_46 : decode cX12_hasDoor 46 = .ok (.iaload, 1) := by decide +kernel
theorem dX12_hasDoor_47 : decode cX12_hasDoor 47 = .ok (.iload_n 2, 1) := by decide +kernel
theorem dX12_hasDoor_48 : decode cX12_hasDoor 48 = .ok (.if_icmp .ne 23, 3) := by decide +kernel
theorem dX12_hasDoor_51 : decode cX12_hasDoor 51 = .ok (.aload_n 0, 1) := by decide +kernel
theorem dX12_hasDoor_52 : decode cX12_hasDoor 52 = .ok (.getfield 29, 3) := by decide +kernel
theorem dX12_hasDoor_55 : decode cX12_hasDoor 55 = .ok (.iload_n 1, 1) := by decide +kernel
theorem dX12_hasDoor_56 : decode cX12_hasDoor 56 = .ok (.aaload, 1) := by decide +kernel
theorem dX12_hasDoor_57 : decode cX12_hasDoor 57 = .ok (.iload 4, 2) := by decide +kernel
theorem dX12_hasDoor_59 : decode cX12_hasDoor 59 = .ok (.iaload, 1) := by decide +kernel
theorem dX12_hasDoor_60 : decode cX12_hasDoor 60 = .ok (.aload_n 0, 1) := by decide +kernel
theorem dX12_hasDoor_61 : decode cX12_hasDoor 61 = .ok (.getfield 11, 3) := by decide +kernel
theorem dX12_hasDoor_64 : decode cX12_hasDoor 64 = .ok (.iload_n 1, 1) := by decide +kernel
theorem dX12_hasDoor_65 : decode cX12_hasDoor 65 = .ok (.aaload, 1) := by decide +kernel
theorem dX12_hasDoor_66 : decode cX12_hasDoor 66 = .ok (.iload_n 2, 1) := by decide +kernel
theorem dX12_hasDoor_67 : decode cX12_hasDoor 67 = .ok (.iaload, 1) := by decide +kernel
theorem dX12_hasDoor_68 : decode cX12_hasDoor 68 = .ok (.if_icmp .eq 28, 3) := by decide +kernel
theorem dX12_hasDoor_71 : decode cX12_hasDoor 71 = .ok (.aload_n 0, 1) := by decide +kernel
theorem dX12_hasDoor_72 : decode cX12_hasDoor 72 = .ok (.getfield 23, 3) := by decide +kernel
theorem dX12_hasDoor_75 : decode cX12_hasDoor 75 = .ok (.iload_n 1, 1) := by decide +kernel
theorem dX12_hasDoor_76 : decode cX12_hasDoor 76 = .ok (.aaload, 1) := by decide +kernel
theorem dX12_hasDoor_77 : decode cX12_hasDoor 77 = .ok (.iload 4, 2) := by decide +kernel
theorem dX12_hasDoor_79 : decode cX12_hasDoor 79 = .ok (.iaload, 1) := by decide +kernel
theorem dX12_hasDoor_80 : decode cX12_hasDoor 80 = .ok (.iload_n 3, 1) := by decide +kernel
theorem dX12_hasDoor_81 : decode cX12_hasDoor 81 = .ok (.if_icmp .ne 17, 3) := by decide +kernel
theorem dX12_hasDoor_84 : decode cX12_hasDoor 84 = .ok (.aload_n 0, 1) := by decide +kernel
theorem dX12_hasDoor_85 : decode cX12_hasDoor 85 = .ok (.getfield 26, 3) := by decide +kernel
theorem dX12_hasDoor_88 : decode cX12_hasDoor 88 = .ok (.iload_n 1, 1) := by decide +kernel
theorem dX12_hasDoor_89 : decode cX12_hasDoor 89 = .ok (.aaload, 1) := by decide +kernel
theorem dX12_hasDoor_90 : decode cX12_hasDoor 90 = .ok (.iload 4, 2) := by decide +kernel
theorem dX12_hasDoor_92 : decode cX12_hasDoor 92 = .ok (.iaload, 1) := by decide +kernel
theorem dX12_hasDoor_93 : decode cX12_hasDoor 93 = .ok (.ifCond .ne 5, 3) := by decide +kernel
theorem dX12_hasDoor_96 : decode cX12_hasDoor 96 = .ok (.iconst 1, 1) := by decide +kernel
theorem dX12_hasDoor_97 : decode cX12_hasDoor 97 = .ok (.ireturn, 1) := by decide +kernel
theorem dX12_hasDoor_98 : decode cX12_hasDoor 98 = .ok (.iinc 4 1, 3) := by decide +kernel
theorem dX12_hasDoor_101 : decode cX12_hasDoor 101 = .ok (.goto (-87), 3) := by decide +kernel
theorem dX12_hasDoor_104 : decode cX12_hasDoor 104 = .ok (.iconst 0, 1) := by decide +kernel
theorem dX12_hasDoor_105 : decode cX12_hasDoor 105 = .ok (.ireturn, 1) := by decide +kernel
theorem dX12_shares_0 : decode cX12_shares 0 = .ok (.iload_n 2, 1) := by decide +kernel
theorem dX12_shares_1 : decode cX12_shares 1 = .ok (.aload_n 0, 1) := by decide +kernel
theorem dX12_shares_2 : decode cX12_shares 2 = .ok (.getfield 50, 3) := by decide +kernel
theorem dX12_shares_5 : decode cX12_shares 5 = .ok (.iload_n 1, 1) := by decide +kernel
theorem dX12_shares_6 : decode cX12_shares 6 = .ok (.iaload, 1) := by decide +kernel
theorem dX12_shares_7 : decode cX12_shares 7 = .ok (.if_icmp .ne 136, 3) := by decide +kernel
theorem dX12_shares_10 : decode cX12_shares 10 = .ok (.iconst 0, 1) := by decide +kernel
theorem dX12_shares_11 : decode cX12_shares 11 = .ok (.istore_n 3, 1) := by decide +kernel
theorem dX12_shares_12 : decode cX12_shares 12 = .ok (.iconst 0, 1) := by decide +kernel
theorem dX12_shares_13 : decode cX12_shares 13 = .ok (.istore 4, 2) := by decide +kernel
theorem dX12_shares_15 : decode cX12_shares 15 = .ok (.iload 4, 2) := by decide +kernel
theorem dX12_shares_17 : decode cX12_shares 17 = .ok (.aload_n 0, 1) := by decide +kernel
theorem dX12_shares_18 : decode cX12_shares 18 = .ok (.getfield 50, 3) := by decide +kernel
theorem dX12_shares_21 : decode cX12_shares 21 = .ok (.iload_n 1, 1) := by decide +kernel
theorem dX12_shares_22 : decode cX12_shares 22 = .ok (.iaload, 1) := by decide +kernel
theorem dX12_shares_23 : decode cX12_shares 23 = .ok (.if_icmp .ge 63, 3) := by decide +kernel
theorem dX12_shares_26 : decode cX12_shares 26 = .ok (.aload_n 0, 1) := by decide +kernel
theorem dX12_shares_27 : decode cX12_shares 27 = .ok (.getfield 50, 3) := by decide +kernel
theorem dX12_shares_30 : decode cX12_shares 30 = .ok (.iload_n 1, 1) := by decide +kernel
theorem dX12_shares_31 : decode cX12_shares 31 = .ok (.iaload, 1) := by decide +kernel
theorem dX12_shares_32 : decode cX12_shares 32 = .ok (.iconst 1, 1) := by decide +kernel
theorem dX12_shares_33 : decode cX12_shares 33 = .ok (.if_icmp .le 53, 3) := by decide +kernel
theorem dX12_shares_36 : decode cX12_shares 36 = .ok (.iload_n 3, 1) := by decide +kernel
theorem dX12_shares_37 : decode cX12_shares 37 = .ok (.aload_n 0, 1) := by decide +kernel
theorem dX12_shares_38 : decode cX12_shares 38 = .ok (.getfield 164, 3) := by decide +kernel
theorem dX12_shares_41 : decode cX12_shares 41 = .ok (.iload 4, 2) := by decide +kernel
theorem dX12_shares_43 : decode cX12_shares 43 = .ok (.iaload, 1) := by decide +kernel
theorem dX12_shares_44 : decode cX12_shares 44 = .ok (.aload_n 0, 1) := by decide +kernel
theorem dX12_shares_45 : decode cX12_shares 45 = .ok (.getfield 164, 3) := by decide +kernel
theorem dX12_shares_48 : decode cX12_shares 48 = .ok (.iload 4, 2) := by decide +kernel
theorem dX12_shares_50 : decode cX12_shares 50 = .ok (.iconst 1, 1) := by decide +kernel
theorem dX12_shares_51 : decode cX12_shares 51 = .ok (.iadd, 1) := by decide +kernel
theorem dX12_shares_52 : decode cX12_shares 52 = .ok (.aload_n 0, 1) := by decide +kernel
theorem dX12_shares_53 : decode cX12_shares 53 = .ok (.getfield 50, 3) := by decide +kernel
theorem dX12_shares_56 : decode cX12_shares 56 = .ok (.iload_n 1, 1) := by decide +kernel
theorem dX12_shares_57 : decode cX12_shares 57 = .ok (.iaload, 1) := by decide +kernel
theorem dX12_shares_58 : decode cX12_shares 58 = .ok (.irem, 1) := by decide +kernel
theorem dX12_shares_59 : decode cX12_shares 59 = .ok (.iaload, 1) := by decide +kernel
theorem dX12_shares_60 : decode cX12_shares 60 = .ok (.if_icmp .eq 17, 3) := by decide +kernel
theorem dX12_shares_63 : decode cX12_shares 63 = .ok (.aload_n 0, 1) := by decide +kernel
theorem dX12_shares_64 : decode cX12_shares 64 = .ok (.iload_n 1, 1) := by decide +kernel
theorem dX12_shares_65 : decode cX12_shares 65 = .ok (.iload 4, 2) := by decide +kernel
theorem dX12_shares_67 : decode cX12_shares 67 = .ok (.invokevirtual 440, 3) := by decide +kernel
theorem dX12_shares_70 : decode cX12_shares 70 = .ok (.ifCond .ne 7, 3) := by decide +kernel
theorem dX12_shares_73 : decode cX12_shares 73 = .ok (.iconst 1, 1) := by decide +kernel
theorem dX12_shares_74 : decode cX12_shares 74 = .ok (.goto 4, 3) := by decide +kernel
theorem dX12_shares_77 : decode cX12_shares 77 = .ok (.iconst 0, 1) := by decide +kernel
theorem dX12_shares_78 : decode cX12_shares 78 = .ok (.iadd, 1) := by decide +kernel
theorem dX12_shares_79 : decode cX12_shares 79 = .ok (.istore_n 3, 1) := by decide +kernel
theorem dX12_shares_80 : decode cX12_shares 80 = .ok (.iinc 4 1, 3) := by decide +kernel
theorem dX12_shares_83 : decode cX12_shares 83 = .ok (.goto (-68), 3) := by decide +kernel
theorem dX12_shares_86 : decode cX12_shares 86 = .ok (.aload_n 0, 1) := by decide +kernel
theorem dX12_shares_87 : decode cX12_shares 87 = .ok (.getfield 443, 3) := by decide +kernel
theorem dX12_shares_90 : decode cX12_shares 90 = .ok (.iconst (-1), 1) := by decide +kernel
theorem dX12_shares_91 : decode cX12_shares 91 = .ok (.if_icmp .eq 12, 3) := by decide +kernel
theorem dX12_shares_94 : decode cX12_shares 94 = .ok (.iload_n 3, 1) := by decide +kernel
theorem dX12_shares_95 : decode cX12_shares 95 = .ok (.aload_n 0, 1) := by decide +kernel
theorem dX12_shares_96 : decode cX12_shares 96 = .ok (.getfield 443, 3) := by decide +kernel
theorem dX12_shares_99 : decode cX12_shares 99 = .ok (.if_icmp .lt 4, 3) := by decide +kernel
theorem dX12_shares_102 : decode cX12_shares 102 = .ok (.return_, 1) := by decide +kernel
theorem dX12_shares_103 : decode cX12_shares 103 = .ok (.aload_n 0, 1) := by decide +kernel
theorem dX12_shares_104 : decode cX12_shares 104 = .ok (.iload_n 3, 1) := by decide +kernel
theorem dX12_shares_105 : decode cX12_shares 105 = .ok (.putfield 443, 3) := by decide +kernel
theorem dX12_shares_108 : decode cX12_shares 108 = .ok (.iconst 0, 1) := by decide +kernel
theorem dX12_shares_109 : decode cX12_shares 109 = .ok (.istore 4, 2) := by decide +kernel
theorem dX12_shares_111 : decode cX12_shares 111 = .ok (.iload 4, 2) := by decide +kernel
theorem dX12_shares_113 : decode cX12_shares 113 = .ok (.aload_n 0, 1) := by decide +kernel
theorem dX12_shares_114 : decode cX12_shares 114 = .ok (.getfield 50, 3) := by decide +kernel
theorem dX12_shares_117 : decode cX12_shares 117 = .ok (.iload_n 1, 1) := by decide +kernel
theorem dX12_shares_118 : decode cX12_shares 118 = .ok (.iaload, 1) := by decide +kernel
theorem dX12_shares_119 : decode cX12_shares 119 = .ok (.if_icmp .ge 23, 3) := by decide +kernel
theorem dX12_shares_122 : decode cX12_shares 122 = .ok (.aload_n 0, 1) := by decide +kernel
theorem dX12_shares_123 : decode cX12_shares 123 = .ok (.getfield 167, 3) := by decide +kernel
theorem dX12_shares_126 : decode cX12_shares 126 = .ok (.iload 4, 2) := by decide +kernel
theorem dX12_shares_128 : decode cX12_shares 128 = .ok (.aload_n 0, 1) := by decide +kernel
theorem dX12_shares_129 : decode cX12_shares 129 = .ok (.getfield 164, 3) := by decide +kernel
theorem dX12_shares_132 : decode cX12_shares 132 = .ok (.iload 4, 2) := by decide +kernel
theorem dX12_shares_134 : decode cX12_shares 134 = .ok (.iaload, 1) := by decide +kernel
theorem dX12_shares_135 : decode cX12_shares 135 = .ok (.iastore, 1) := by decide +kernel
theorem dX12_shares_136 : decode cX12_shares 136 = .ok (.iinc 4 1, 3) := by decide +kernel
theorem dX12_shares_139 : decode cX12_shares 139 = .ok (.goto (-28), 3) := by decide +kernel
theorem dX12_shares_142 : decode cX12_shares 142 = .ok (.return_, 1) := by decide +kernel
theorem dX12_shares_143 : decode cX12_shares 143 = .ok (.iconst 0, 1) := by decide +kernel
theorem dX12_shares_144 : decode cX12_shares 144 = .ok (.istore_n 3, 1) := by decide +kernel
theorem dX12_shares_145 : decode cX12_shares 145 = .ok (.iload_n 3, 1) := by decide +kernel
theorem dX12_shares_146 : decode cX12_shares 146 = .ok (.aload_n 0, 1) := by decide +kernel
theorem dX12_shares_147 : decode cX12_shares 147 = .ok (.getfield 434, 3) := by decide +kernel
theorem dX12_shares_150 : decode cX12_shares 150 = .ok (.if_icmp .ge 92, 3) := by decide +kernel
theorem dX12_shares_153 : decode cX12_shares 153 = .ok (.aload_n 0, 1) := by decide +kernel
theorem dX12_shares_154 : decode cX12_shares 154 = .ok (.getfield 155, 3) := by decide +kernel
