theorem dX12_rolls_5 : decode cX12_rolls 5 = .ok (.ifCond .eq 15, 3) := by decide +kernel
theorem dX12_rolls_20 : decode cX12_rolls 20 = .ok (.iconst (-1), 1) := by decide +kernel
theorem dX12_rolls_21 : decode cX12_rolls 21 = .ok (.ireturn, 1) := by decide +kernel
theorem dX12_left_0 : decode cX12_left 0 = .ok (.aload_n 0, 1) := by decide +kernel
theorem dX12_left_1 : decode cX12_left 1 = .ok (.iload_n 1, 1) := by decide +kernel
theorem dX12_left_2 : decode cX12_left 2 = .ok (.invokevirtual 362, 3) := by decide +kernel
theorem dX12_left_5 : decode cX12_left 5 = .ok (.ifCond .eq 13, 3) := by decide +kernel
theorem dX12_left_18 : decode cX12_left 18 = .ok (.iconst (-1), 1) := by decide +kernel
theorem dX12_left_19 : decode cX12_left 19 = .ok (.ireturn, 1) := by decide +kernel
theorem dX12_faults_0 : decode cX12_faults 0 = .ok (.aload_n 0, 1) := by decide +kernel
theorem dX12_faults_1 : decode cX12_faults 1 = .ok (.iload_n 1, 1) := by decide +kernel
theorem dX12_faults_2 : decode cX12_faults 2 = .ok (.invokevirtual 362, 3) := by decide +kernel
theorem dX12_faults_5 : decode cX12_faults 5 = .ok (.ifCond .eq 15, 3) := by decide +kernel
theorem dX12_faults_20 : decode cX12_faults 20 = .ok (.iconst (-1), 1) := by decide +kernel
theorem dX12_faults_21 : decode cX12_faults 21 = .ok (.ireturn, 1) := by decide +kernel
theorem dX12_best_0 : decode cX12_best 0 = .ok (.aload_n 0, 1) := by decide +kernel
theorem dX12_best_1 : decode cX12_best 1 = .ok (.iload_n 1, 1) := by decide +kernel
theorem dX12_best_2 : decode cX12_best 2 = .ok (.invokevirtual 284, 3) := by decide +kernel
theorem dX12_best_5 : decode cX12_best 5 = .ok (.ifCond .eq 36, 3) := by decide +kernel
theorem dX12_best_41 : decode cX12_best 41 = .ok (.iconst (-1), 1) := by decide +kernel
theorem dX12_best_42 : decode cX12_best 42 = .ok (.ireturn, 1) := by decide +kernel
theorem dX12_areCuts_0 : decode cX12_areCuts 0 = .ok (.aload_n 0, 1) := by decide +kernel
theorem dX12_areCuts_1 : decode cX12_areCuts 1 = .ok (.iload_n 1, 1) := by decide +kernel
theorem dX12_areCuts_2 : decode cX12_areCuts 2 = .ok (.invokevirtual 284, 3) := by decide +kernel
theorem dX12_areCuts_5 : decode cX12_areCuts 5 = .ok (.ifCond .eq 29, 3) := by decide +kernel
theorem dX12_areCuts_34 : decode cX12_areCuts 34 = .ok (.iconst 0, 1) := by decide +kernel
theorem dX12_areCuts_35 : decode cX12_areCuts 35 = .ok (.ireturn, 1) := by decide +kernel
theorem dX12_shown_0 : decode cX12_shown 0 = .ok (.aload_n 0, 1) := by decide +kernel
theorem dX12_shown_1 : decode cX12_shown 1 = .ok (.iload_n 1, 1) := by decide +kernel
theorem dX12_shown_2 : decode cX12_shown 2 = .ok (.iload_n 2, 1) := by decide +kernel
theorem dX12_shown_3 : decode cX12_shown 3 = .ok (.invokevirtual 425, 3) := by decide +kernel
theorem dX12_shown_6 : decode cX12_shown 6 = .ok (.ifCond .eq 12, 3) := by decide +kernel
theorem dX12_shown_18 : decode cX12_shown 18 = .ok (.iconst (-1), 1) := by decide +kernel
theorem dX12_shown_19 : decode cX12_shown 19 = .ok (.ireturn, 1) := by decide +kernel
theorem dX12_run_0 : decode cX12_run 0 = .ok (.aload_n 0, 1) := by decide +kernel
theorem dX12_run_1 : decode cX12_run 1 = .ok (.iload_n 1, 1) := by decide +kernel
theorem dX12_run_2 : decode cX12_run 2 = .ok (.iload_n 2, 1) := by decide +kernel
theorem dX12_run_3 : decode cX12_run 3 = .ok (.invokevirtual 425, 3) := by decide +kernel
theorem dX12_run_6 : decode cX12_run 6 = .ok (.ifCond .eq 21, 3) := by decide +kernel
theorem dX12_run_27 : decode cX12_run 27 = .ok (.ldc_w 431, 3) := by decide +kernel
theorem dX12_run_30 : decode cX12_run 30 = .ok (.ireturn, 1) := by decide +kernel
theorem dX12_cuts__0 : decode cX12_cuts_ 0 = .ok (.aload_n 0, 1) := by decide +kernel
theorem dX12_cuts__1 : decode cX12_cuts_ 1 = .ok (.iload_n 1, 1) := by decide +kernel
theorem dX12_cuts__2 : decode cX12_cuts_ 2 = .ok (.invokevirtual 284, 3) := by decide +kernel
theorem dX12_cuts__5 : decode cX12_cuts_ 5 = .ok (.ifCond .ne 5, 3) := by decide +kernel
theorem dX12_cuts__8 : decode cX12_cuts_ 8 = .ok (.iconst (-1), 1) := by decide +kernel
theorem dX12_cuts__9 : decode cX12_cuts_ 9 = .ok (.ireturn, 1) := by decide +kernel
theorem dX12_batch_0 : decode cX12_batch 0 = .ok (.aload_n 0, 1) := by decide +kernel
theorem dX12_batch_1 : decode cX12_batch 1 = .ok (.iload_n 1, 1) := by decide +kernel
theorem dX12_batch_2 : decode cX12_batch 2 = .ok (.invokevirtual 312, 3) := by decide +kernel
theorem dX12_batch_5 : decode cX12_batch 5 = .ok (.ifCond .eq 23, 3) := by decide +kernel
theorem dX12_batch_28 : decode cX12_batch 28 = .ok (.iconst (-1), 1) := by decide +kernel
theorem dX12_batch_29 : decode cX12_batch 29 = .ok (.ireturn, 1) := by decide +kernel
theorem dX12_own_0 : decode cX12_own 0 = .ok (.aload_n 0, 1) := by decide +kernel
theorem dX12_own_1 : decode cX12_own 1 = .ok (.iload_n 1, 1) := by decide +kernel
theorem dX12_own_2 : decode cX12_own 2 = .ok (.invokevirtual 362, 3) := by decide +kernel
theorem dX12_own_5 : decode cX12_own 5 = .ok (.ifCond .eq 21, 3) := by decide +kernel
theorem dX12_own_26 : decode cX12_own 26 = .ok (.iconst (-1), 1) := by decide +kernel
theorem dX12_own_27 : decode cX12_own 27 = .ok (.ireturn, 1) := by decide +kernel
theorem dX12_shared_0 : decode cX12_shared 0 = .ok (.aload_n 0, 1) := by decide +kernel
theorem dX12_shared_1 : decode cX12_shared 1 = .ok (.iload_n 1, 1) := by decide +kernel
theorem dX12_shared_2 : decode cX12_shared 2 = .ok (.invokevirtual 362, 3) := by decide +kernel
theorem dX12_shared_5 : decode cX12_shared 5 = .ok (.ifCond .eq 26, 3) := by decide +kernel
theorem dX12_shared_31 : decode cX12_shared 31 = .ok (.iconst (-1), 1) := by decide +kernel
theorem dX12_shared_32 : decode cX12_shared 32 = .ok (.ireturn, 1) := by decide +kernel
theorem dX12_all_0 : decode cX12_all 0 = .ok (.aload_n 0, 1) := by decide +kernel
theorem dX12_all_1 : decode cX12_all 1 = .ok (.iload_n 1, 1) := by decide +kernel
theorem dX12_all_2 : decode cX12_all 2 = .ok (.invokevirtual 312, 3) := by decide +kernel
theorem dX12_all_5 : decode cX12_all 5 = .ok (.ifCond .ne 5, 3) := by decide +kernel
theorem dX12_all_8 : decode cX12_all 8 = .ok (.iconst (-1), 1) := by decide +kernel
theorem dX12_all_9 : decode cX12_all 9 = .ok (.ireturn, 1) := by decide +kernel
theorem dX12_keep_0 : decode cX12_keep 0 = .ok (.aload_n 0, 1) := by decide +kernel
theorem dX12_keep_1 : decode cX12_keep 1 = .ok (.iload_n 1, 1) := by decide +kernel
theorem dX12_keep_2 : decode cX12_keep 2 = .ok (.invokevirtual 312, 3) := by decide +kernel
theorem dX12_keep_5 : decode cX12_keep 5 = .ok (.ifCond .eq 42, 3) := by decide +kernel
theorem dX12_keep_47 : decode cX12_keep 47 = .ok (.iconst (-1), 1) := by decide +kernel
theorem dX12_keep_48 : decode cX12_keep 48 = .ok (.ireturn, 1) := by decide +kernel
theorem dX12_mended_0 : decode cX12_mended 0 = .ok (.aload_n 0, 1) := by decide +kernel
theorem dX12_mended_1 : decode cX12_mended 1 = .ok (.iload_n 1, 1) := by decide +kernel
theorem dX12_mended_2 : decode cX12_mended 2 = .ok (.invokevirtual 362, 3) := by decide +kernel
theorem dX12_mended_5 : decode cX12_mended 5 = .ok (.ifCond .ne 5, 3) := by decide +kernel
theorem dX12_mended_8 : decode cX12_mended 8 = .ok (.iconst (-1), 1) := by decide +kernel
theorem dX12_mended_9 : decode cX12_mended 9 = .ok (.ireturn, 1) := by decide +kernel
theorem dX12_border_0 : decode cX12_border 0 = .ok (.aload_n 0, 1) := by decide +kernel
theorem dX12_border_1 : decode cX12_border 1 = .ok (.iload_n 1, 1) := by decide +kernel
theorem dX12_border_2 : decode cX12_border 2 = .ok (.invokevirtual 284, 3) := by decide +kernel
theorem dX12_border_5 : decode cX12_border 5 = .ok (.ifCond .eq 29, 3) := by decide +kernel
theorem dX12_border_34 : decode cX12_border 34 = .ok (.iconst (-1), 1) := by decide +kernel
theorem dX12_border_35 : decode cX12_border 35 = .ok (.ireturn, 1) := by decide +kernel
theorem dX12_day_0 : decode cX12_day 0 = .ok (.aload_n 0, 1) := by decide +kernel
theorem dX12_day_1 : decode cX12_day 1 = .ok (.iload_n 1, 1) := by decide +kernel
theorem dX12_day_2 : decode cX12_day 2 = .ok (.invokevirtual 362, 3) := by decide +kernel
theorem dX12_day_5 : decode cX12_day 5 = .ok (.ifCond .eq 71, 3) := by decide +kernel
theorem dX12_day_76 : decode cX12_day 76 = .ok (.iconst (-1), 1) := by decide +kernel
theorem dX12_day_77 : decode cX12_day 77 = .ok (.ireturn, 1) := by decide +kernel
theorem dX12_hang_0 : decode cX12_hang 0 = .ok (.aload_n 0, 1) := by decide +kernel
theorem dX12_hang_1 : decode cX12_hang 1 = .ok (.iload_n 1, 1) := by decide +kernel
theorem dX12_hang_2 : decode cX12_hang 2 = .ok (.invokevirtual 362, 3) := by decide +kernel
theorem dX12_hang_5 : decode cX12_hang 5 = .ok (.ifCond .eq 34, 3) := by decide +kernel
theorem dX12_hang_39 : decode cX12_hang 39 = .ok (.iconst (-1), 1) := by decide +kernel
theorem dX12_hang_40 : decode cX12_hang 40 = .ok (.ireturn, 1) := by decide +kernel
theorem dX12_image_0 : decode cX12_image 0 = .ok (.iload_n 1, 1) := by decide +kernel
theorem dX12_image_1 : decode cX12_image 1 = .ok (.i2l, 1) := by decide +kernel
theorem dX12_image_2 : decode cX12_image 2 = .ok (.lconst 0, 1) := by decide +kernel
theorem dX12_image_3 : decode cX12_image 3 = .ok (.ldc2_w 303, 3) := by decide +kernel
theorem dX12_image_6 : decode cX12_image 6 = .ok (.invokestatic 205, 3) := by decide +kernel
theorem dX12_image_9 : decode cX12_image 9 = .ok (.ifCond .ne 5, 3) := by decide +kernel
theorem dX12_image_12 : decode cX12_image 12 = .ok (.iconst 0, 1) := by decide +kernel
theorem dX12_image_13 : decode cX12_image 13 = .ok (.ireturn, 1) := by decide +kernel
theorem dX12_image_14 : decode cX12_image 14 = .ok (.iconst 0, 1) := by decide +kernel
theorem dX12_image_15 : decode cX12_image 15 = .ok (.istore_n 2, 1) := by decide +kernel
theorem dX12_image_16 : decode cX12_image 16 = .ok (.iload_n 2, 1) := by decide +kernel
theorem dX12_image_17 : decode cX12_image 17 = .ok (.aload_n 0, 1) := by decide +kernel
theorem dX12_image_18 : decode cX12_image 18 = .ok (.getfield 278, 3) := by decide +kernel
theorem dX12_image_21 : decode cX12_image 21 = .ok (.if_icmp .ge 79, 3) := by decide +kernel
theorem dX12_image_100 : decode cX12_image 100 = .ok (.iconst 0, 1) := by decide +kernel
theorem dX12_image_101 : decode cX12_image 101 = .ok (.istore_n 2, 1) := by decide +kernel
theorem dX12_image_102 : decode cX12_image 102 = .ok (.iload_n 2, 1) := by decide +kernel
theorem dX12_image_103 : decode cX12_image 103 = .ok (.aload_n 0, 1) := by decide +kernel
theorem dX12_image_104 : decode cX12_image 104 = .ok (.getfield 449, 3) := by decide +kernel
theorem dX12_image_107 : decode cX12_image 107 = .ok (.if_icmp .ge 61, 3) := by decide +kernel
theorem dX12_image_168 : decode cX12_image 168 = .ok (.aload_n 0, 1) := by decide +kernel
theorem dX12_image_169 : decode cX12_image 169 = .ok (.getfield 191, 3) := by decide +kernel
theorem dX12_image_172 : decode cX12_image 172 = .ok (.iload_n 1, 1) := by decide +kernel
theorem dX12_image_173 : decode cX12_image 173 = .ok (.aload_n 0, 1) := by decide +kernel
theorem dX12_image_174 : decode cX12_image 174 = .ok (.getfield 278, 3) := by decide +kernel
theorem dX12_image_177 : decode cX12_image 177 = .ok (.iastore, 1) := by decide +kernel
theorem dX12_image_178 : decode cX12_image 178 = .ok (.aload_n 0, 1) := by decide +kernel
theorem dX12_image_179 : decode cX12_image 179 = .ok (.getfield 188, 3) := by decide +kernel
theorem dX12_image_182 : decode cX12_image 182 = .ok (.iload_n 1, 1) := by decide +kernel
theorem dX12_image_183 : decode cX12_image 183 = .ok (.aload_n 0, 1) := by decide +kernel
theorem dX12_image_184 : decode cX12_image 184 = .ok (.getfield 449, 3) := by decide +kernel
theorem dX12_image_187 : decode cX12_image 187 = .ok (.iastore, 1) := by decide +kernel
theorem dX12_image_188 : decode cX12_image 188 = .ok (.aload_n 0, 1) := by decide +kernel
theorem dX12_image_189 : decode cX12_image 189 = .ok (.getfield 194, 3) := by decide +kernel
theorem dX12_image_192 : decode cX12_image 192 = .ok (.iload_n 1, 1) := by decide +kernel
theorem dX12_image_193 : decode cX12_image 193 = .ok (.iconst 1, 1) := by decide +kernel
theorem dX12_image_194 : decode cX12_image 194 = .ok (.bastore, 1) := by decide +kernel
theorem dX12_image_195 : decode cX12_image 195 = .ok (.iconst 1, 1) := by decide +kernel
theorem dX12_image_196 : decode cX12_image 196 = .ok (.ireturn, 1) := by decide +kernel
theorem dX12_on_0 : decode cX12_on 0 = .ok (.iload_n 1, 1) := by decide +kernel
theorem dX12_on_1 : decode cX12_on 1 = .ok (.i2l, 1) := by decide +kernel
theorem dX12_on_2 : decode cX12_on 2 = .ok (.lconst 0, 1) := by decide +kernel
theorem dX12_on_3 : decode cX12_on 3 = .ok (.ldc2_w 303, 3) := by decide +kernel
theorem dX12_on_6 : decode cX12_on 6 = .ok (.invokestatic 205, 3) := by decide +kernel
theorem dX12_on_9 : decode cX12_on 9 = .ok (.ifCond .eq 12, 3) := by decide +kernel
theorem dX12_on_12 : decode cX12_on 12 = .ok (.aload_n 0, 1) := by decide +kernel
theorem dX12_on_13 : decode cX12_on 13 = .ok (.getfield 194, 3) := by decide +kernel
theorem dX12_on_16 : decode cX12_on 16 = .ok (.iload_n 1, 1) := by decide +kernel
theorem dX12_on_17 : decode cX12_on 17 = .ok (.baload, 1) := by decide +kernel
theorem dX12_on_18 : decode cX12_on 18 = .ok (.ifCond .ne 5, 3) := by decide +kernel
theorem dX12_on_21 : decode cX12_on 21 = .ok (.iconst 0, 1) := by decide +kernel
theorem dX12_on_22 : decode cX12_on 22 = .ok (.ireturn, 1) := by decide +kernel
theorem dX12_count_0 : decode cX12_count 0 = .ok (.iload_n 1, 1) := by decide +kernel
theorem dX12_count_1 : decode cX12_count 1 = .ok (.tableswitch 69 0 5 #[39, 44, 49, 54, 59, 64], 39) := by decide +kernel
theorem dX12_count_40 : decode cX12_count 40 = .ok (.aload_n 0, 1) := by decide +kernel
theorem dX12_count_41 : decode cX12_count 41 = .ok (.getfield 278, 3) := by decide +kernel
theorem dX12_count_44 : decode cX12_count 44 = .ok (.ireturn, 1) := by decide +kernel
theorem dX12_count_45 : decode cX12_count 45 = .ok (.aload_n 0, 1) := by decide +kernel
theorem dX12_count_46 : decode cX12_count 46 = .ok (.getfield 309, 3) := by decide +kernel
theorem dX12_count_49 : decode cX12_count 49 = .ok (.ireturn, 1) := by decide +kernel
theorem dX12_count_50 : decode cX12_count 50 = .ok (.aload_n 0, 1) := by decide +kernel
theorem dX12_count_51 : decode cX12_count 51 = .ok (.getfield 103, 3) := by decide +kernel
theorem dX12_count_54 : decode cX12_count 54 = .ok (.ireturn, 1) := by decide +kernel
theorem dX12_count_55 : decode cX12_count 55 = .ok (.aload_n 0, 1) := by decide +kernel
theorem dX12_count_56 : decode cX12_count 56 = .ok (.getfield 434, 3) := by decide +kernel
theorem dX12_count_59 : decode cX12_count 59 = .ok (.ireturn, 1) := by decide +kernel
theorem dX12_count_60 : decode cX12_count 60 = .ok (.aload_n 0, 1) := by decide +kernel
theorem dX12_count_61 : decode cX12_count 61 = .ok (.getfield 449, 3) := by decide +kernel
theorem dX12_count_64 : decode cX12_count 64 = .ok (.ireturn, 1) := by decide +kernel
theorem dX12_count_65 : decode cX12_count 65 = .ok (.aload_n 0, 1) := by decide +kernel
theorem dX12_count_66 : decode cX12_count 66 = .ok (.getfield 198, 3) := by decide +kernel
theorem dX12_count_69 : decode cX12_count 69 = .ok (.ireturn, 1) := by decide +kernel
theorem dX12_count_70 : decode cX12_count 70 = .ok (.iconst (-1), 1) := by decide +kernel
theorem dX12_count_71 : decode cX12_count 71 = .ok (.ireturn, 1) := by decide +kernel
