theorem dX11_run_12 : decode cX11_run 12 = .ok (.aload 4, 2) := by decide +kernel
theorem dX11_run_14 : decode cX11_run 14 = .ok (.getfield 123, 3) := by decide +kernel
theorem dX11_run_17 : decode cX11_run 17 = .ok (.iload_n 2, 1) := by decide +kernel
theorem dX11_run_18 : decode cX11_run 18 = .ok (.invokevirtual 291, 3) := by decide +kernel
theorem dX11_run_21 : decode cX11_run 21 = .ok (.ifCond .eq 21, 3) := by decide +kernel
theorem dX11_run_24 : decode cX11_run 24 = .ok (.iconst 0, 1) := by decide +kernel
theorem dX11_run_25 : decode cX11_run 25 = .ok (.iload_n 3, 1) := by decide +kernel
theorem dX11_run_26 : decode cX11_run 26 = .ok (.aload 4, 2) := by decide +kernel
theorem dX11_run_28 : decode cX11_run 28 = .ok (.getfield 123, 3) := by decide +kernel
theorem dX11_run_31 : decode cX11_run 31 = .ok (.getfield 127, 3) := by decide +kernel
theorem dX11_run_34 : decode cX11_run 34 = .ok (.iconst 1, 1) := by decide +kernel
theorem dX11_run_35 : decode cX11_run 35 = .ok (.isub, 1) := by decide +kernel
theorem dX11_run_36 : decode cX11_run 36 = .ok (.invokestatic 159, 3) := by decide +kernel
theorem dX11_run_39 : decode cX11_run 39 = .ok (.ifCond .ne 7, 3) := by decide +kernel
theorem dX11_run_42 : decode cX11_run 42 = .ok (.ldc_w 297, 3) := by decide +kernel
theorem dX11_run_45 : decode cX11_run 45 = .ok (.ireturn, 1) := by decide +kernel
theorem dX11_run_46 : decode cX11_run 46 = .ok (.aload 4, 2) := by decide +kernel
theorem dX11_run_48 : decode cX11_run 48 = .ok (.getfield 123, 3) := by decide +kernel
theorem dX11_run_51 : decode cX11_run 51 = .ok (.iload_n 2, 1) := by decide +kernel
theorem dX11_run_52 : decode cX11_run 52 = .ok (.iload_n 3, 1) := by decide +kernel
theorem dX11_run_53 : decode cX11_run 53 = .ok (.invokevirtual 298, 3) := by decide +kernel
theorem dX11_run_56 : decode cX11_run 56 = .ok (.ireturn, 1) := by decide +kernel
theorem dX11_cuts_0 : decode cX11_cuts 0 = .ok (.aload_n 0, 1) := by decide +kernel
theorem dX11_cuts_1 : decode cX11_cuts 1 = .ok (.iload_n 1, 1) := by decide +kernel
theorem dX11_cuts_2 : decode cX11_cuts 2 = .ok (.invokevirtual 116, 3) := by decide +kernel
theorem dX11_cuts_5 : decode cX11_cuts 5 = .ok (.astore_n 2, 1) := by decide +kernel
theorem dX11_cuts_6 : decode cX11_cuts 6 = .ok (.aload_n 2, 1) := by decide +kernel
theorem dX11_cuts_7 : decode cX11_cuts 7 = .ok (.ifnonnull 7, 3) := by decide +kernel
theorem dX11_cuts_10 : decode cX11_cuts 10 = .ok (.iconst (-1), 1) := by decide +kernel
theorem dX11_cuts_11 : decode cX11_cuts 11 = .ok (.goto 10, 3) := by decide +kernel
theorem dX11_cuts_14 : decode cX11_cuts 14 = .ok (.aload_n 2, 1) := by decide +kernel
theorem dX11_cuts_15 : decode cX11_cuts 15 = .ok (.getfield 123, 3) := by decide +kernel
theorem dX11_cuts_18 : decode cX11_cuts 18 = .ok (.invokevirtual 301, 3) := by decide +kernel
theorem dX11_cuts_21 : decode cX11_cuts 21 = .ok (.ireturn, 1) := by decide +kernel
theorem dX11_batch_0 : decode cX11_batch 0 = .ok (.aload_n 0, 1) := by decide +kernel
theorem dX11_batch_1 : decode cX11_batch 1 = .ok (.iload_n 1, 1) := by decide +kernel
theorem dX11_batch_2 : decode cX11_batch 2 = .ok (.invokevirtual 174, 3) := by decide +kernel
theorem dX11_batch_5 : decode cX11_batch 5 = .ok (.ifnonnull 5, 3) := by decide +kernel
theorem dX11_batch_8 : decode cX11_batch 8 = .ok (.iconst (-1), 1) := by decide +kernel
theorem dX11_batch_9 : decode cX11_batch 9 = .ok (.ireturn, 1) := by decide +kernel
theorem dX11_batch_10 : decode cX11_batch 10 = .ok (.aload_n 0, 1) := by decide +kernel
theorem dX11_batch_11 : decode cX11_batch 11 = .ok (.getfield 72, 3) := by decide +kernel
theorem dX11_batch_14 : decode cX11_batch 14 = .ok (.iload_n 1, 1) := by decide +kernel
theorem dX11_batch_15 : decode cX11_batch 15 = .ok (.iload_n 2, 1) := by decide +kernel
theorem dX11_batch_16 : decode cX11_batch 16 = .ok (.invokevirtual 304, 3) := by decide +kernel
theorem dX11_batch_19 : decode cX11_batch 19 = .ok (.ireturn, 1) := by decide +kernel
theorem dX11_shared_0 : decode cX11_shared 0 = .ok (.aload_n 0, 1) := by decide +kernel
theorem dX11_shared_1 : decode cX11_shared 1 = .ok (.iload_n 1, 1) := by decide +kernel
theorem dX11_shared_2 : decode cX11_shared 2 = .ok (.invokevirtual 120, 3) := by decide +kernel
theorem dX11_shared_5 : decode cX11_shared 5 = .ok (.ifCond .eq 34, 3) := by decide +kernel
theorem dX11_shared_8 : decode cX11_shared 8 = .ok (.iconst (-1), 1) := by decide +kernel
theorem dX11_shared_9 : decode cX11_shared 9 = .ok (.iload_n 2, 1) := by decide +kernel
theorem dX11_shared_10 : decode cX11_shared 10 = .ok (.aload_n 0, 1) := by decide +kernel
theorem dX11_shared_11 : decode cX11_shared 11 = .ok (.getfield 51, 3) := by decide +kernel
theorem dX11_shared_14 : decode cX11_shared 14 = .ok (.getfield 257, 3) := by decide +kernel
theorem dX11_shared_17 : decode cX11_shared 17 = .ok (.getfield 123, 3) := by decide +kernel
theorem dX11_shared_20 : decode cX11_shared 20 = .ok (.getfield 127, 3) := by decide +kernel
theorem dX11_shared_23 : decode cX11_shared 23 = .ok (.iconst 1, 1) := by decide +kernel
theorem dX11_shared_24 : decode cX11_shared 24 = .ok (.isub, 1) := by decide +kernel
theorem dX11_shared_25 : decode cX11_shared 25 = .ok (.invokestatic 159, 3) := by decide +kernel
theorem dX11_shared_28 : decode cX11_shared 28 = .ok (.ifCond .eq 11, 3) := by decide +kernel
theorem dX11_shared_31 : decode cX11_shared 31 = .ok (.aload_n 0, 1) := by decide +kernel
theorem dX11_shared_32 : decode cX11_shared 32 = .ok (.iload_n 1, 1) := by decide +kernel
theorem dX11_shared_33 : decode cX11_shared 33 = .ok (.invokevirtual 306, 3) := by decide +kernel
theorem dX11_shared_36 : decode cX11_shared 36 = .ok (.ifCond .ne 5, 3) := by decide +kernel
theorem dX11_shared_39 : decode cX11_shared 39 = .ok (.iconst (-1), 1) := by decide +kernel
theorem dX11_shared_40 : decode cX11_shared 40 = .ok (.ireturn, 1) := by decide +kernel
theorem dX11_shared_41 : decode cX11_shared 41 = .ok (.iload_n 2, 1) := by decide +kernel
theorem dX11_shared_42 : decode cX11_shared 42 = .ok (.iconst (-1), 1) := by decide +kernel
theorem dX11_shared_43 : decode cX11_shared 43 = .ok (.if_icmp .ne 13, 3) := by decide +kernel
theorem dX11_shared_46 : decode cX11_shared 46 = .ok (.aload_n 0, 1) := by decide +kernel
theorem dX11_shared_47 : decode cX11_shared 47 = .ok (.getfield 72, 3) := by decide +kernel
theorem dX11_shared_50 : decode cX11_shared 50 = .ok (.getfield 309, 3) := by decide +kernel
theorem dX11_shared_53 : decode cX11_shared 53 = .ok (.goto 12, 3) := by decide +kernel
theorem dX11_shared_56 : decode cX11_shared 56 = .ok (.aload_n 0, 1) := by decide +kernel
theorem dX11_shared_57 : decode cX11_shared 57 = .ok (.getfield 72, 3) := by decide +kernel
theorem dX11_shared_60 : decode cX11_shared 60 = .ok (.getfield 312, 3) := by decide +kernel
theorem dX11_shared_63 : decode cX11_shared 63 = .ok (.iload_n 2, 1) := by decide +kernel
theorem dX11_shared_64 : decode cX11_shared 64 = .ok (.iaload, 1) := by decide +kernel
theorem dX11_shared_65 : decode cX11_shared 65 = .ok (.ireturn, 1) := by decide +kernel
theorem dX11_own_0 : decode cX11_own 0 = .ok (.aload_n 0, 1) := by decide +kernel
theorem dX11_own_1 : decode cX11_own 1 = .ok (.iload_n 1, 1) := by decide +kernel
theorem dX11_own_2 : decode cX11_own 2 = .ok (.invokevirtual 120, 3) := by decide +kernel
theorem dX11_own_5 : decode cX11_own 5 = .ok (.ifCond .eq 26, 3) := by decide +kernel
theorem dX11_own_8 : decode cX11_own 8 = .ok (.iconst 0, 1) := by decide +kernel
theorem dX11_own_9 : decode cX11_own 9 = .ok (.iload_n 2, 1) := by decide +kernel
theorem dX11_own_10 : decode cX11_own 10 = .ok (.aload_n 0, 1) := by decide +kernel
theorem dX11_own_11 : decode cX11_own 11 = .ok (.getfield 51, 3) := by decide +kernel
theorem dX11_own_14 : decode cX11_own 14 = .ok (.getfield 257, 3) := by decide +kernel
theorem dX11_own_17 : decode cX11_own 17 = .ok (.getfield 123, 3) := by decide +kernel
theorem dX11_own_20 : decode cX11_own 20 = .ok (.getfield 127, 3) := by decide +kernel
theorem dX11_own_23 : decode cX11_own 23 = .ok (.iconst 1, 1) := by decide +kernel
theorem dX11_own_24 : decode cX11_own 24 = .ok (.isub, 1) := by decide +kernel
theorem dX11_own_25 : decode cX11_own 25 = .ok (.invokestatic 159, 3) := by decide +kernel
theorem dX11_own_28 : decode cX11_own 28 = .ok (.ifCond .ne 5, 3) := by decide +kernel
theorem dX11_own_31 : decode cX11_own 31 = .ok (.iconst (-1), 1) := by decide +kernel
theorem dX11_own_32 : decode cX11_own 32 = .ok (.ireturn, 1) := by decide +kernel
theorem dX11_own_33 : decode cX11_own 33 = .ok (.aload_n 0, 1) := by decide +kernel
theorem dX11_own_34 : decode cX11_own 34 = .ok (.iload_n 2, 1) := by decide +kernel
theorem dX11_own_35 : decode cX11_own 35 = .ok (.invokevirtual 315, 3) := by decide +kernel
theorem dX11_own_38 : decode cX11_own 38 = .ok (.ireturn, 1) := by decide +kernel
theorem dX11_all_0 : decode cX11_all 0 = .ok (.aload_n 0, 1) := by decide +kernel
theorem dX11_all_1 : decode cX11_all 1 = .ok (.iload_n 1, 1) := by decide +kernel
theorem dX11_all_2 : decode cX11_all 2 = .ok (.invokevirtual 174, 3) := by decide +kernel
theorem dX11_all_5 : decode cX11_all 5 = .ok (.astore_n 2, 1) := by decide +kernel
theorem dX11_all_6 : decode cX11_all 6 = .ok (.aload_n 2, 1) := by decide +kernel
theorem dX11_all_7 : decode cX11_all 7 = .ok (.ifnonnull 5, 3) := by decide +kernel
theorem dX11_all_10 : decode cX11_all 10 = .ok (.iconst (-1), 1) := by decide +kernel
theorem dX11_all_11 : decode cX11_all 11 = .ok (.ireturn, 1) := by decide +kernel
theorem dX11_keep_0 : decode cX11_keep 0 = .ok (.aload_n 0, 1) := by decide +kernel
theorem dX11_keep_1 : decode cX11_keep 1 = .ok (.iload_n 1, 1) := by decide +kernel
theorem dX11_keep_2 : decode cX11_keep 2 = .ok (.invokevirtual 174, 3) := by decide +kernel
theorem dX11_keep_5 : decode cX11_keep 5 = .ok (.astore 4, 2) := by decide +kernel
theorem dX11_keep_7 : decode cX11_keep 7 = .ok (.aload 4, 2) := by decide +kernel
theorem dX11_keep_9 : decode cX11_keep 9 = .ok (.ifnull 18, 3) := by decide +kernel
theorem dX11_keep_12 : decode cX11_keep 12 = .ok (.iconst 0, 1) := by decide +kernel
theorem dX11_keep_13 : decode cX11_keep 13 = .ok (.iload_n 3, 1) := by decide +kernel
theorem dX11_keep_14 : decode cX11_keep 14 = .ok (.aload 4, 2) := by decide +kernel
theorem dX11_keep_16 : decode cX11_keep 16 = .ok (.getfield 178, 3) := by decide +kernel
theorem dX11_keep_19 : decode cX11_keep 19 = .ok (.iconst 1, 1) := by decide +kernel
theorem dX11_keep_20 : decode cX11_keep 20 = .ok (.isub, 1) := by decide +kernel
theorem dX11_keep_21 : decode cX11_keep 21 = .ok (.invokestatic 159, 3) := by decide +kernel
theorem dX11_keep_24 : decode cX11_keep 24 = .ok (.ifCond .ne 5, 3) := by decide +kernel
theorem dX11_keep_27 : decode cX11_keep 27 = .ok (.iconst (-1), 1) := by decide +kernel
theorem dX11_keep_28 : decode cX11_keep 28 = .ok (.ireturn, 1) := by decide +kernel
theorem dX11_keep_29 : decode cX11_keep 29 = .ok (.aload_n 0, 1) := by decide +kernel
theorem dX11_keep_30 : decode cX11_keep 30 = .ok (.getfield 40, 3) := by decide +kernel
theorem dX11_keep_33 : decode cX11_keep 33 = .ok (.iload_n 1, 1) := by decide +kernel
theorem dX11_keep_34 : decode cX11_keep 34 = .ok (.iload_n 2, 1) := by decide +kernel
theorem dX11_keep_35 : decode cX11_keep 35 = .ok (.iload_n 3, 1) := by decide +kernel
theorem dX11_keep_36 : decode cX11_keep 36 = .ok (.invokevirtual 326, 3) := by decide +kernel
theorem dX11_keep_39 : decode cX11_keep 39 = .ok (.ireturn, 1) := by decide +kernel
theorem dX11_mended_0 : decode cX11_mended 0 = .ok (.aload_n 0, 1) := by decide +kernel
theorem dX11_mended_1 : decode cX11_mended 1 = .ok (.iload_n 1, 1) := by decide +kernel
theorem dX11_mended_2 : decode cX11_mended 2 = .ok (.invokevirtual 120, 3) := by decide +kernel
theorem dX11_mended_5 : decode cX11_mended 5 = .ok (.ifCond .eq 27, 3) := by decide +kernel
theorem dX11_mended_8 : decode cX11_mended 8 = .ok (.aload_n 0, 1) := by decide +kernel
theorem dX11_mended_9 : decode cX11_mended 9 = .ok (.getfield 40, 3) := by decide +kernel
theorem dX11_mended_12 : decode cX11_mended 12 = .ok (.aload_n 0, 1) := by decide +kernel
theorem dX11_mended_13 : decode cX11_mended 13 = .ok (.getfield 51, 3) := by decide +kernel
theorem dX11_mended_16 : decode cX11_mended 16 = .ok (.iload_n 2, 1) := by decide +kernel
theorem dX11_mended_17 : decode cX11_mended 17 = .ok (.aload_n 0, 1) := by decide +kernel
theorem dX11_mended_18 : decode cX11_mended 18 = .ok (.getfield 40, 3) := by decide +kernel
theorem dX11_mended_21 : decode cX11_mended 21 = .ok (.getfield 141, 3) := by decide +kernel
theorem dX11_mended_24 : decode cX11_mended 24 = .ok (.iload_n 1, 1) := by decide +kernel
theorem dX11_mended_25 : decode cX11_mended 25 = .ok (.iaload, 1) := by decide +kernel
theorem dX11_mended_26 : decode cX11_mended 26 = .ok (.invokevirtual 330, 3) := by decide +kernel
theorem dX11_mended_29 : decode cX11_mended 29 = .ok (.goto 4, 3) := by decide +kernel
theorem dX11_mended_32 : decode cX11_mended 32 = .ok (.iconst (-1), 1) := by decide +kernel
theorem dX11_mended_33 : decode cX11_mended 33 = .ok (.ireturn, 1) := by decide +kernel
theorem dX11_border_0 : decode cX11_border 0 = .ok (.aload_n 0, 1) := by decide +kernel
theorem dX11_border_1 : decode cX11_border 1 = .ok (.iload_n 1, 1) := by decide +kernel
theorem dX11_border_2 : decode cX11_border 2 = .ok (.invokevirtual 116, 3) := by decide +kernel
theorem dX11_border_5 : decode cX11_border 5 = .ok (.astore 4, 2) := by decide +kernel
theorem dX11_border_7 : decode cX11_border 7 = .ok (.aload 4, 2) := by decide +kernel
theorem dX11_border_9 : decode cX11_border 9 = .ok (.ifnull 26, 3) := by decide +kernel
theorem dX11_border_12 : decode cX11_border 12 = .ok (.iconst 0, 1) := by decide +kernel
theorem dX11_border_13 : decode cX11_border 13 = .ok (.iload_n 2, 1) := by decide +kernel
theorem dX11_border_14 : decode cX11_border 14 = .ok (.sipush 400, 3) := by decide +kernel
theorem dX11_border_17 : decode cX11_border 17 = .ok (.invokestatic 159, 3) := by decide +kernel
theorem dX11_border_20 : decode cX11_border 20 = .ok (.ifCond .eq 15, 3) := by decide +kernel
theorem dX11_border_23 : decode cX11_border 23 = .ok (.bipush 50, 2) := by decide +kernel
theorem dX11_border_25 : decode cX11_border 25 = .ok (.iload_n 3, 1) := by decide +kernel
theorem dX11_border_26 : decode cX11_border 26 = .ok (.sipush 2000, 3) := by decide +kernel
theorem dX11_border_29 : decode cX11_border 29 = .ok (.invokestatic 159, 3) := by decide +kernel
theorem dX11_border_32 : decode cX11_border 32 = .ok (.ifCond .ne 5, 3) := by decide +kernel
theorem dX11_border_35 : decode cX11_border 35 = .ok (.iconst (-1), 1) := by decide +kernel
theorem dX11_border_36 : decode cX11_border 36 = .ok (.ireturn, 1) := by decide +kernel
theorem dX11_border_37 : decode cX11_border 37 = .ok (.iconst 0, 1) := by decide +kernel
theorem dX11_border_38 : decode cX11_border 38 = .ok (.aload 4, 2) := by decide +kernel
theorem dX11_border_40 : decode cX11_border 40 = .ok (.getfield 123, 3) := by decide +kernel
theorem dX11_border_43 : decode cX11_border 43 = .ok (.getfield 135, 3) := by decide +kernel
theorem dX11_border_46 : decode cX11_border 46 = .ok (.aload 4, 2) := by decide +kernel
theorem dX11_border_48 : decode cX11_border 48 = .ok (.iload_n 2, 1) := by decide +kernel
theorem dX11_border_49 : decode cX11_border 49 = .ok (.invokevirtual 334, 3) := by decide +kernel
theorem dX11_border_52 : decode cX11_border 52 = .ok (.isub, 1) := by decide +kernel
theorem dX11_border_53 : decode cX11_border 53 = .ok (.invokestatic 337, 3) := by decide +kernel
theorem dX11_border_56 : decode cX11_border 56 = .ok (.iload_n 3, 1) := by decide +kernel
theorem dX11_border_57 : decode cX11_border 57 = .ok (.invokestatic 245, 3) := by decide +kernel
theorem dX11_border_60 : decode cX11_border 60 = .ok (.ireturn, 1) := by decide +kernel
theorem dX11_day_0 : decode cX11_day 0 = .ok (.aload_n 0, 1) := by decide +kernel
theorem dX11_day_1 : decode cX11_day 1 = .ok (.iload_n 1, 1) := by decide +kernel
theorem dX11_day_2 : decode cX11_day 2 = .ok (.invokevirtual 120, 3) := by decide +kernel
theorem dX11_day_5 : decode cX11_day 5 = .ok (.ifCond .eq 27, 3) := by decide +kernel
theorem dX11_day_8 : decode cX11_day 8 = .ok (.iconst 0, 1) := by decide +kernel
theorem dX11_day_9 : decode cX11_day 9 = .ok (.iload 5, 2) := by decide +kernel
theorem dX11_day_11 : decode cX11_day 11 = .ok (.iconst 1, 1) := by decide +kernel
theorem dX11_day_12 : decode cX11_day 12 = .ok (.invokestatic 159, 3) := by decide +kernel
theorem dX11_day_15 : decode cX11_day 15 = .ok (.ifCond .eq 17, 3) := by decide +kernel
theorem dX11_day_18 : decode cX11_day 18 = .ok (.aload_n 0, 1) := by decide +kernel
theorem dX11_day_19 : decode cX11_day 19 = .ok (.getfield 79, 3) := by decide +kernel
theorem dX11_day_22 : decode cX11_day 22 = .ok (.iload_n 2, 1) := by decide +kernel
theorem dX11_day_23 : decode cX11_day 23 = .ok (.iload_n 3, 1) := by decide +kernel
theorem dX11_day_24 : decode cX11_day 24 = .ok (.iload 4, 2) := by decide +kernel
theorem dX11_day_26 : decode cX11_day 26 = .ok (.invokevirtual 342, 3) := by decide +kernel
theorem dX11_day_29 : decode cX11_day 29 = .ok (.ifCond .ne 5, 3) := by decide +kernel
theorem dX11_day_32 : decode cX11_day 32 = .ok (.iconst (-1), 1) := by decide +kernel
theorem dX11_day_33 : decode cX11_day 33 = .ok (.ireturn, 1) := by decide +kernel
theorem dX11_day_34 : decode cX11_day 34 = .ok (.aload_n 0, 1) := by decide +kernel
theorem dX11_day_35 : decode cX11_day 35 = .ok (.getfield 40, 3) := by decide +kernel
theorem dX11_day_38 : decode cX11_day 38 = .ok (.getfield 156, 3) := by decide +kernel
theorem dX11_day_41 : decode cX11_day 41 = .ok (.iload_n 1, 1) := by decide +kernel
theorem dX11_day_42 : decode cX11_day 42 = .ok (.iaload, 1) := by decide +kernel
theorem dX11_day_43 : decode cX11_day 43 = .ok (.istore 6, 2) := by decide +kernel
theorem dX11_day_45 : decode cX11_day 45 = .ok (.iload 6, 2) := by decide +kernel
theorem dX11_day_47 : decode cX11_day 47 = .ok (.aload_n 0, 1) := by decide +kernel
theorem dX11_day_48 : decode cX11_day 48 = .ok (.getfield 51, 3) := by decide +kernel
theorem dX11_day_51 : decode cX11_day 51 = .ok (.getfield 150, 3) := by decide +kernel
theorem dX11_day_54 : decode cX11_day 54 = .ok (.if_icmp .ge 45, 3) := by decide +kernel
theorem dX11_day_57 : decode cX11_day 57 = .ok (.aload_n 0, 1) := by decide +kernel
theorem dX11_day_58 : decode cX11_day 58 = .ok (.getfield 79, 3) := by decide +kernel
theorem dX11_day_61 : decode cX11_day 61 = .ok (.aload_n 0, 1) := by decide +kernel
theorem dX11_day_62 : decode cX11_day 62 = .ok (.getfield 51, 3) := by decide +kernel
theorem dX11_day_65 : decode cX11_day 65 = .ok (.aload_n 0, 1) := by decide +kernel
theorem dX11_day_66 : decode cX11_day 66 = .ok (.getfield 51, 3) := by decide +kernel
theorem dX11_day_69 : decode cX11_day 69 = .ok (.getfield 207, 3) := by decide +kernel
theorem dX11_day_72 : decode cX11_day 72 = .ok (.iload 6, 2) := by decide +kernel
theorem dX11_day_74 : decode cX11_day 74 = .ok (.iaload, 1) := by decide +kernel
theorem dX11_day_75 : decode cX11_day 75 = .ok (.aload_n 0, 1) := by decide +kernel
theorem dX11_day_76 : decode cX11_day 76 = .ok (.getfield 51, 3) := by decide +kernel
theorem dX11_day_79 : decode cX11_day 79 = .ok (.getfield 207, 3) := by decide +kernel
theorem dX11_day_82 : decode cX11_day 82 = .ok (.iload 6, 2) := by decide +kernel
theorem dX11_day_84 : decode cX11_day 84 = .ok (.iconst 1, 1) := by decide +kernel
theorem dX11_day_85 : decode cX11_day 85 = .ok (.iadd, 1) := by decide +kernel
theorem dX11_day_86 : decode cX11_day 86 = .ok (.iaload, 1) := by decide +kernel
theorem dX11_day_87 : decode cX11_day 87 = .ok (.invokevirtual 239, 3) := by decide +kernel
theorem dX11_day_90 : decode cX11_day 90 = .ok (.invokevirtual 344, 3) := by decide +kernel
theorem dX11_day_93 : decode cX11_day 93 = .ok (.iinc 6 1, 3) := by decide +kernel
theorem dX11_day_96 : decode cX11_day 96 = .ok (.goto (-51), 3) := by decide +kernel
theorem dX11_day_99 : decode cX11_day 99 = .ok (.iload 5, 2) := by decide +kernel
theorem dX11_day_101 : decode cX11_day 101 = .ok (.ifCond .ne 13, 3) := by decide +kernel
theorem dX11_day_104 : decode cX11_day 104 = .ok (.aload_n 0, 1) := by decide +kernel
theorem dX11_day_105 : decode cX11_day 105 = .ok (.getfield 79, 3) := by decide +kernel
theorem dX11_day_108 : decode cX11_day 108 = .ok (.invokevirtual 347, 3) := by decide +kernel
theorem dX11_day_111 : decode cX11_day 111 = .ok (.goto 10, 3) := by decide +kernel
theorem dX11_day_114 : decode cX11_day 114 = .ok (.aload_n 0, 1) := by decide +kernel
theorem dX11_day_115 : decode cX11_day 115 = .ok (.getfield 79, 3) := by decide +kernel
theorem dX11_day_118 : decode cX11_day 118 = .ok (.getfield 350, 3) := by decide +kernel
theorem dX11_day_121 : decode cX11_day 121 = .ok (.ireturn, 1) := by decide +kernel
theorem dX11_hang_0 : decode cX11_hang 0 = .ok (.aload_n 0, 1) := by decide +kernel
theorem dX11_hang_1 : decode cX11_hang 1 = .ok (.iload_n 1, 1) := by decide +kernel
theorem dX11_hang_2 : decode cX11_hang 2 = .ok (.invokevirtual 120, 3) := by decide +kernel
theorem dX11_hang_5 : decode cX11_hang 5 = .ok (.ifCond .eq 28, 3) := by decide +kernel
theorem dX11_hang_8 : decode cX11_hang 8 = .ok (.iload_n 2, 1) := by decide +kernel
theorem dX11_hang_9 : decode cX11_hang 9 = .ok (.ifCond .le 24, 3) := by decide +kernel
theorem dX11_hang_12 : decode cX11_hang 12 = .ok (.iload_n 2, 1) := by decide +kernel
theorem dX11_hang_13 : decode cX11_hang 13 = .ok (.aload_n 0, 1) := by decide +kernel
theorem dX11_hang_14 : decode cX11_hang 14 = .ok (.getfield 51, 3) := by decide +kernel
theorem dX11_hang_17 : decode cX11_hang 17 = .ok (.getfield 150, 3) := by decide +kernel
theorem dX11_hang_20 : decode cX11_hang 20 = .ok (.aload_n 0, 1) := by decide +kernel
theorem dX11_hang_21 : decode cX11_hang 21 = .ok (.getfield 40, 3) := by decide +kernel
theorem dX11_hang_24 : decode cX11_hang 24 = .ok (.getfield 156, 3) := by decide +kernel
theorem dX11_hang_27 : decode cX11_hang 27 = .ok (.iload_n 1, 1) := by decide +kernel
theorem dX11_hang_28 : decode cX11_hang 28 = .ok (.iaload, 1) := by decide +kernel
theorem dX11_hang_29 : decode cX11_hang 29 = .ok (.isub, 1) := by decide +kernel
theorem dX11_hang_30 : decode cX11_hang 30 = .ok (.if_icmp .le 5, 3) := by decide +kernel
theorem dX11_hang_33 : decode cX11_hang 33 = .ok (.iconst (-1), 1) := by decide +kernel
theorem dX11_hang_34 : decode cX11_hang 34 = .ok (.ireturn, 1) := by decide +kernel
theorem dX11_hang_35 : decode cX11_hang 35 = .ok (.aload_n 0, 1) := by decide +kernel
theorem dX11_hang_36 : decode cX11_hang 36 = .ok (.getfield 40, 3) := by decide +kernel
theorem dX11_hang_39 : decode cX11_hang 39 = .ok (.getfield 156, 3) := by decide +kernel
theorem dX11_hang_42 : decode cX11_hang 42 = .ok (.iload_n 1, 1) := by decide +kernel
theorem dX11_hang_43 : decode cX11_hang 43 = .ok (.dup2, 1) := by decide +kernel
theorem dX11_hang_44 : decode cX11_hang 44 = .ok (.iaload, 1) := by decide +kernel
theorem dX11_hang_45 : decode cX11_hang 45 = .ok (.iload_n 2, 1) := by decide +kernel
theorem dX11_hang_46 : decode cX11_hang 46 = .ok (.iadd, 1) := by decide +kernel
theorem dX11_hang_47 : decode cX11_hang 47 = .ok (.iastore, 1) := by decide +kernel
theorem dX11_hang_48 : decode cX11_hang 48 = .ok (.aload_n 0, 1) := by decide +kernel
theorem dX11_hang_49 : decode cX11_hang 49 = .ok (.getfield 40, 3) := by decide +kernel
theorem dX11_hang_52 : decode cX11_hang 52 = .ok (.getfield 156, 3) := by decide +kernel
theorem dX11_hang_55 : decode cX11_hang 55 = .ok (.iload_n 1, 1) := by decide +kernel
theorem dX11_hang_56 : decode cX11_hang 56 = .ok (.iaload, 1) := by decide +kernel
theorem dX11_hang_57 : decode cX11_hang 57 = .ok (.ireturn, 1) := by decide +kernel
theorem dX11_image_0 : decode cX11_image 0 = .ok (.iconst 0, 1) := by decide +kernel
theorem dX11_image_1 : decode cX11_image 1 = .ok (.iload_n 1, 1) := by decide +kernel
theorem dX11_image_2 : decode cX11_image 2 = .ok (.iconst 2, 1) := by decide +kernel
theorem dX11_image_3 : decode cX11_image 3 = .ok (.invokestatic 159, 3) := by decide +kernel
theorem dX11_image_6 : decode cX11_image 6 = .ok (.ifCond .ne 5, 3) := by decide +kernel
theorem dX11_image_9 : decode cX11_image 9 = .ok (.iconst 0, 1) := by decide +kernel
theorem dX11_image_10 : decode cX11_image 10 = .ok (.ireturn, 1) := by decide +kernel
theorem dX11_image_11 : decode cX11_image 11 = .ok (.aload_n 0, 1) := by decide +kernel
theorem dX11_image_12 : decode cX11_image 12 = .ok (.getfield 44, 3) := by decide +kernel
theorem dX11_image_15 : decode cX11_image 15 = .ok (.iload_n 1, 1) := by decide +kernel
theorem dX11_image_16 : decode cX11_image 16 = .ok (.aaload, 1) := by decide +kernel
theorem dX11_image_17 : decode cX11_image 17 = .ok (.ifnonnull 16, 3) := by decide +kernel
theorem dX11_image_20 : decode cX11_image 20 = .ok (.aload_n 0, 1) := by decide +kernel
theorem dX11_image_21 : decode cX11_image 21 = .ok (.getfield 44, 3) := by decide +kernel
theorem dX11_image_24 : decode cX11_image 24 = .ok (.iload_n 1, 1) := by decide +kernel
theorem dX11_image_25 : decode cX11_image 25 = .ok (.new 37, 3) := by decide +kernel
theorem dX11_image_28 : decode cX11_image 28 = .ok (.dup, 1) := by decide +kernel
theorem dX11_image_29 : decode cX11_image 29 = .ok (.invokespecial 39, 3) := by decide +kernel
theorem dX11_image_32 : decode cX11_image 32 = .ok (.aastore, 1) := by decide +kernel
theorem dX11_image_33 : decode cX11_image 33 = .ok (.aload_n 0, 1) := by decide +kernel
theorem dX11_image_34 : decode cX11_image 34 = .ok (.getfield 44, 3) := by decide +kernel
theorem dX11_image_37 : decode cX11_image 37 = .ok (.iload_n 1, 1) := by decide +kernel
theorem dX11_image_38 : decode cX11_image 38 = .ok (.aaload, 1) := by decide +kernel
theorem dX11_image_39 : decode cX11_image 39 = .ok (.aload_n 0, 1) := by decide +kernel
theorem dX11_image_40 : decode cX11_image 40 = .ok (.getfield 40, 3) := by decide +kernel
theorem dX11_image_43 : decode cX11_image 43 = .ok (.invokevirtual 353, 3) := by decide +kernel
theorem dX11_image_46 : decode cX11_image 46 = .ok (.iconst 1, 1) := by decide +kernel
theorem dX11_image_47 : decode cX11_image 47 = .ok (.ireturn, 1) := by decide +kernel
theorem dX11_on_0 : decode cX11_on 0 = .ok (.iconst 0, 1) := by decide +kernel
theorem dX11_on_1 : decode cX11_on 1 = .ok (.iload_n 1, 1) := by decide +kernel
theorem dX11_on_2 : decode cX11_on 2 = .ok (.iconst 2, 1) := by decide +kernel
theorem dX11_on_3 : decode cX11_on 3 = .ok (.invokestatic 159, 3) := by decide +kernel
theorem dX11_on_6 : decode cX11_on 6 = .ok (.ifCond .eq 12, 3) := by decide +kernel
theorem dX11_on_9 : decode cX11_on 9 = .ok (.aload_n 0, 1) := by decide +kernel
theorem dX11_on_10 : decode cX11_on 10 = .ok (.getfield 44, 3) := by decide +kernel
theorem dX11_on_13 : decode cX11_on 13 = .ok (.iload_n 1, 1) := by decide +kernel
theorem dX11_on_14 : decode cX11_on 14 = .ok (.aaload, 1) := by decide +kernel
theorem dX11_on_15 : decode cX11_on 15 = .ok (.ifnonnull 5, 3) := by decide +kernel
theorem dX11_on_18 : decode cX11_on 18 = .ok (.iconst 0, 1) := by decide +kernel
theorem dX11_on_19 : decode cX11_on 19 = .ok (.ireturn, 1) := by decide +kernel
theorem dX11_on_20 : decode cX11_on 20 = .ok (.aload_n 0, 1) := by decide +kernel
theorem dX11_on_21 : decode cX11_on 21 = .ok (.getfield 40, 3) := by decide +kernel
theorem dX11_on_24 : decode cX11_on 24 = .ok (.aload_n 0, 1) := by decide +kernel
theorem dX11_on_25 : decode cX11_on 25 = .ok (.getfield 44, 3) := by decide +kernel
theorem dX11_on_28 : decode cX11_on 28 = .ok (.iload_n 1, 1) := by decide +kernel
theorem dX11_on_29 : decode cX11_on 29 = .ok (.aaload, 1) := by decide +kernel
theorem dX11_on_30 : decode cX11_on 30 = .ok (.invokevirtual 353, 3) := by decide +kernel
theorem dX11_on_33 : decode cX11_on 33 = .ok (.iconst 1, 1) := by decide +kernel
theorem dX11_on_34 : decode cX11_on 34 = .ok (.ireturn, 1) := by decide +kernel
theorem dX11_count_0 : decode cX11_count 0 = .ok (.iload_n 1, 1) := by decide +kernel
theorem dX11_count_1 : decode cX11_count 1 = .ok (.tableswitch 78 0 5 #[39, 44, 49, 54, 62, 70], 39) := by decide +kernel
theorem dX11_count_40 : decode cX11_count 40 = .ok (.aload_n 0, 1) := by decide +kernel
theorem dX11_count_41 : decode cX11_count 41 = .ok (.getfield 88, 3) := by decide +kernel
theorem dX11_count_44 : decode cX11_count 44 = .ok (.ireturn, 1) := by decide +kernel
theorem dX11_count_45 : decode cX11_count 45 = .ok (.aload_n 0, 1) := by decide +kernel
theorem dX11_count_46 : decode cX11_count 46 = .ok (.getfield 92, 3) := by decide +kernel
theorem dX11_count_49 : decode cX11_count 49 = .ok (.ireturn, 1) := by decide +kernel
theorem dX11_count_50 : decode cX11_count 50 = .ok (.aload_n 0, 1) := by decide +kernel
theorem dX11_count_51 : decode cX11_count 51 = .ok (.getfield 95, 3) := by decide +kernel
theorem dX11_count_54 : decode cX11_count 54 = .ok (.ireturn, 1) := by decide +kernel
theorem dX11_count_55 : decode cX11_count 55 = .ok (.aload_n 0, 1) := by decide +kernel
theorem dX11_count_56 : decode cX11_count 56 = .ok (.getfield 72, 3) := by decide +kernel
theorem dX11_count_59 : decode cX11_count 59 = .ok (.getfield 357, 3) := by decide +kernel
theorem dX11_count_62 : decode cX11_count 62 = .ok (.ireturn, 1) := by decide +kernel
theorem dX11_count_63 : decode cX11_count 63 = .ok (.aload_n 0, 1) := by decide +kernel
theorem dX11_count_64 : decode cX11_count 64 = .ok (.getfield 40, 3) := by decide +kernel
theorem dX11_count_67 : decode cX11_count 67 = .ok (.getfield 360, 3) := by decide +kernel
theorem dX11_count_70 : decode cX11_count 70 = .ok (.ireturn, 1) := by decide +kernel
theorem dX11_count_71 : decode cX11_count 71 = .ok (.aload_n 0, 1) := by decide +kernel
theorem dX11_count_72 : decode cX11_count 72 = .ok (.getfield 10, 3) := by decide +kernel
theorem dX11_count_75 : decode cX11_count 75 = .ok (.getfield 106, 3) := by decide +kernel
theorem dX11_count_78 : decode cX11_count 78 = .ok (.ireturn, 1) := by decide +kernel
theorem dX11_count_79 : decode cX11_count 79 = .ok (.iconst (-1), 1) := by decide +kernel
theorem dX11_count_80 : decode cX11_count 80 = .ok (.ireturn, 1) := by decide +kernel
theorem dX11_roomAt_0 : decode cX11_roomAt 0 = .ok (.iconst 0, 1) := by decide +kernel
theorem dX11_roomAt_1 : decode cX11_roomAt 1 = .ok (.iload_n 1, 1) := by decide +kernel
theorem dX11_roomAt_2 : decode cX11_roomAt 2 = .ok (.aload_n 0, 1) := by decide +kernel
theorem dX11_roomAt_3 : decode cX11_roomAt 3 = .ok (.getfield 88, 3) := by decide +kernel
theorem dX11_roomAt_6 : decode cX11_roomAt 6 = .ok (.iconst 1, 1) := by decide +kernel
theorem dX11_roomAt_7 : decode cX11_roomAt 7 = .ok (.isub, 1) := by decide +kernel
theorem dX11_roomAt_8 : decode cX11_roomAt 8 = .ok (.invokestatic 159, 3) := by decide +kernel
theorem dX11_roomAt_11 : decode cX11_roomAt 11 = .ok (.ifCond .eq 12, 3) := by decide +kernel
theorem dX11_roomAt_14 : decode cX11_roomAt 14 = .ok (.aload_n 0, 1) := by decide +kernel
theorem dX11_roomAt_15 : decode cX11_roomAt 15 = .ok (.getfield 27, 3) := by decide +kernel
theorem dX11_roomAt_18 : decode cX11_roomAt 18 = .ok (.iload_n 1, 1) := by decide +kernel
theorem dX11_roomAt_19 : decode cX11_roomAt 19 = .ok (.aaload, 1) := by decide +kernel
theorem dX11_roomAt_20 : decode cX11_roomAt 20 = .ok (.goto 4, 3) := by decide +kernel
theorem dX11_roomAt_23 : decode cX11_roomAt 23 = .ok (.aconst_null, 1) := by decide +kernel
theorem dX11_roomAt_24 : decode cX11_roomAt 24 = .ok (.areturn, 1) := by decide +kernel
theorem dX11_paperAt_0 : decode cX11_paperAt 0 = .ok (.iconst 0, 1) := by decide +kernel
theorem dX11_paperAt_1 : decode cX11_paperAt 1 = .ok (.iload_n 1, 1) := by decide +kernel
theorem dX11_paperAt_2 : decode cX11_paperAt 2 = .ok (.aload_n 0, 1) := by decide +kernel
theorem dX11_paperAt_3 : decode cX11_paperAt 3 = .ok (.getfield 92, 3) := by decide +kernel
theorem dX11_paperAt_6 : decode cX11_paperAt 6 = .ok (.iconst 1, 1) := by decide +kernel
theorem dX11_paperAt_7 : decode cX11_paperAt 7 = .ok (.isub, 1) := by decide +kernel
theorem dX11_paperAt_8 : decode cX11_paperAt 8 = .ok (.invokestatic 159, 3) := by decide +kernel
theorem dX11_paperAt_11 : decode cX11_paperAt 11 = .ok (.ifCond .eq 12, 3) := by decide +kernel
theorem dX11_paperAt_14 : decode cX11_paperAt 14 = .ok (.aload_n 0, 1) := by decide +kernel
theorem dX11_paperAt_15 : decode cX11_paperAt 15 = .ok (.getfield 33, 3) := by decide +kernel
theorem dX11_paperAt_18 : decode cX11_paperAt 18 = .ok (.iload_n 1, 1) := by decide +kernel
theorem dX11_paperAt_19 : decode cX11_paperAt 19 = .ok (.aaload, 1) := by decide +kernel
theorem dX11_paperAt_20 : decode cX11_paperAt 20 = .ok (.goto 4, 3) := by decide +kernel
theorem dX11_paperAt_23 : decode cX11_paperAt 23 = .ok (.aconst_null, 1) := by decide +kernel
theorem dX11_paperAt_24 : decode cX11_paperAt 24 = .ok (.areturn, 1) := by decide +kernel
theorem dX11_lay_0 : decode cX11_lay 0 = .ok (.aload_n 0, 1) := by decide +kernel
theorem dX11_lay_1 : decode cX11_lay 1 = .ok (.iload_n 1, 1) := by decide +kernel
theorem dX11_lay_2 : decode cX11_lay 2 = .ok (.invokevirtual 116, 3) := by decide +kernel
theorem dX11_lay_5 : decode cX11_lay 5 = .ok (.astore_n 2, 1) := by decide +kernel
theorem dX11_lay_6 : decode cX11_lay 6 = .ok (.aload_n 2, 1) := by decide +kernel
theorem dX11_lay_7 : decode cX11_lay 7 = .ok (.ifnonnull 5, 3) := by decide +kernel
theorem dX11_lay_10 : decode cX11_lay 10 = .ok (.iconst 0, 1) := by decide +kernel
theorem dX11_lay_11 : decode cX11_lay 11 = .ok (.ireturn, 1) := by decide +kernel
theorem dX11_lay_12 : decode cX11_lay 12 = .ok (.aload_n 0, 1) := by decide +kernel
theorem dX11_lay_13 : decode cX11_lay 13 = .ok (.aload_n 0, 1) := by decide +kernel
theorem dX11_lay_14 : decode cX11_lay 14 = .ok (.getfield 40, 3) := by decide +kernel
theorem dX11_lay_17 : decode cX11_lay 17 = .ok (.getfield 141, 3) := by decide +kernel
theorem dX11_lay_20 : decode cX11_lay 20 = .ok (.iload_n 1, 1) := by decide +kernel
theorem dX11_lay_21 : decode cX11_lay 21 = .ok (.iaload, 1) := by decide +kernel
theorem dX11_lay_22 : decode cX11_lay 22 = .ok (.invokevirtual 174, 3) := by decide +kernel
theorem dX11_lay_25 : decode cX11_lay 25 = .ok (.astore_n 3, 1) := by decide +kernel
theorem dX11_lay_26 : decode cX11_lay 26 = .ok (.aload_n 3, 1) := by decide +kernel
theorem dX11_lay_27 : decode cX11_lay 27 = .ok (.ifnonnull 5, 3) := by decide +kernel
theorem dX11_lay_30 : decode cX11_lay 30 = .ok (.iconst 0, 1) := by decide +kernel
theorem dX11_lay_31 : decode cX11_lay 31 = .ok (.ireturn, 1) := by decide +kernel
theorem dX11_lay_32 : decode cX11_lay 32 = .ok (.aload_n 0, 1) := by decide +kernel
theorem dX11_lay_33 : decode cX11_lay 33 = .ok (.getfield 51, 3) := by decide +kernel
theorem dX11_lay_36 : decode cX11_lay 36 = .ok (.aload_n 2, 1) := by decide +kernel
