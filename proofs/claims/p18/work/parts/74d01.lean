theorem dX3_init_0 : decode cX3_init 0 = .ok (.aload_n 0, 1) := by decide +kernel
theorem dX3_init_1 : decode cX3_init 1 = .ok (.invokespecial 3, 3) := by decide +kernel
theorem dX3_init_4 : decode cX3_init 4 = .ok (.aload_n 0, 1) := by decide +kernel
theorem dX3_init_5 : decode cX3_init 5 = .ok (.iload_n 1, 1) := by decide +kernel
theorem dX3_init_6 : decode cX3_init 6 = .ok (.putfield 9, 3) := by decide +kernel
theorem dX3_init_9 : decode cX3_init 9 = .ok (.aload_n 0, 1) := by decide +kernel
theorem dX3_init_10 : decode cX3_init 10 = .ok (.iload_n 2, 1) := by decide +kernel
theorem dX3_init_11 : decode cX3_init 11 = .ok (.putfield 15, 3) := by decide +kernel
theorem dX3_init_14 : decode cX3_init 14 = .ok (.aload_n 0, 1) := by decide +kernel
theorem dX3_init_15 : decode cX3_init 15 = .ok (.iload_n 3, 1) := by decide +kernel
theorem dX3_init_16 : decode cX3_init 16 = .ok (.putfield 18, 3) := by decide +kernel
theorem dX3_init_19 : decode cX3_init 19 = .ok (.aload_n 0, 1) := by decide +kernel
theorem dX3_init_20 : decode cX3_init 20 = .ok (.iload 4, 2) := by decide +kernel
theorem dX3_init_22 : decode cX3_init 22 = .ok (.putfield 21, 3) := by decide +kernel
theorem dX3_init_25 : decode cX3_init 25 = .ok (.aload_n 0, 1) := by decide +kernel
theorem dX3_init_26 : decode cX3_init 26 = .ok (.iload 5, 2) := by decide +kernel
theorem dX3_init_28 : decode cX3_init 28 = .ok (.sipush 1000, 3) := by decide +kernel
theorem dX3_init_31 : decode cX3_init 31 = .ok (.idiv, 1) := by decide +kernel
theorem dX3_init_32 : decode cX3_init 32 = .ok (.putfield 24, 3) := by decide +kernel
theorem dX3_init_35 : decode cX3_init 35 = .ok (.aload_n 0, 1) := by decide +kernel
theorem dX3_init_36 : decode cX3_init 36 = .ok (.iload 5, 2) := by decide +kernel
theorem dX3_init_38 : decode cX3_init 38 = .ok (.sipush 1000, 3) := by decide +kernel
theorem dX3_init_41 : decode cX3_init 41 = .ok (.irem, 1) := by decide +kernel
theorem dX3_init_42 : decode cX3_init 42 = .ok (.putfield 27, 3) := by decide +kernel
theorem dX3_init_45 : decode cX3_init 45 = .ok (.return_, 1) := by decide +kernel
theorem dX3_canBe_0 : decode cX3_canBe 0 = .ok (.bipush 20, 2) := by decide +kernel
theorem dX3_canBe_2 : decode cX3_canBe 2 = .ok (.iload_n 0, 1) := by decide +kernel
theorem dX3_canBe_3 : decode cX3_canBe 3 = .ok (.bipush 120, 2) := by decide +kernel
theorem dX3_canBe_5 : decode cX3_canBe 5 = .ok (.invokestatic 30, 3) := by decide +kernel
theorem dX3_canBe_8 : decode cX3_canBe 8 = .ok (.ifCond .eq 70, 3) := by decide +kernel
theorem dX3_canBe_11 : decode cX3_canBe 11 = .ok (.bipush 10, 2) := by decide +kernel
theorem dX3_canBe_13 : decode cX3_canBe 13 = .ok (.iload_n 1, 1) := by decide +kernel
theorem dX3_canBe_14 : decode cX3_canBe 14 = .ok (.bipush 120, 2) := by decide +kernel
theorem dX3_canBe_16 : decode cX3_canBe 16 = .ok (.invokestatic 30, 3) := by decide +kernel
theorem dX3_canBe_19 : decode cX3_canBe 19 = .ok (.ifCond .eq 59, 3) := by decide +kernel
theorem dX3_canBe_22 : decode cX3_canBe 22 = .ok (.iconst 0, 1) := by decide +kernel
theorem dX3_canBe_23 : decode cX3_canBe 23 = .ok (.iload_n 2, 1) := by decide +kernel
theorem dX3_canBe_24 : decode cX3_canBe 24 = .ok (.iconst 2, 1) := by decide +kernel
theorem dX3_canBe_25 : decode cX3_canBe 25 = .ok (.invokestatic 30, 3) := by decide +kernel
theorem dX3_canBe_28 : decode cX3_canBe 28 = .ok (.ifCond .eq 50, 3) := by decide +kernel
theorem dX3_canBe_31 : decode cX3_canBe 31 = .ok (.sipush 300, 3) := by decide +kernel
theorem dX3_canBe_34 : decode cX3_canBe 34 = .ok (.iload_n 3, 1) := by decide +kernel
theorem dX3_canBe_35 : decode cX3_canBe 35 = .ok (.sipush 2000, 3) := by decide +kernel
theorem dX3_canBe_38 : decode cX3_canBe 38 = .ok (.invokestatic 30, 3) := by decide +kernel
theorem dX3_canBe_41 : decode cX3_canBe 41 = .ok (.ifCond .eq 37, 3) := by decide +kernel
theorem dX3_canBe_44 : decode cX3_canBe 44 = .ok (.iconst 0, 1) := by decide +kernel
theorem dX3_canBe_45 : decode cX3_canBe 45 = .ok (.iload 4, 2) := by decide +kernel
theorem dX3_canBe_47 : decode cX3_canBe 47 = .ok (.sipush 1000, 3) := by decide +kernel
theorem dX3_canBe_50 : decode cX3_canBe 50 = .ok (.idiv, 1) := by decide +kernel
theorem dX3_canBe_51 : decode cX3_canBe 51 = .ok (.iload_n 1, 1) := by decide +kernel
theorem dX3_canBe_52 : decode cX3_canBe 52 = .ok (.iconst 1, 1) := by decide +kernel
theorem dX3_canBe_53 : decode cX3_canBe 53 = .ok (.isub, 1) := by decide +kernel
theorem dX3_canBe_54 : decode cX3_canBe 54 = .ok (.invokestatic 30, 3) := by decide +kernel
theorem dX3_canBe_57 : decode cX3_canBe 57 = .ok (.ifCond .eq 21, 3) := by decide +kernel
theorem dX3_canBe_60 : decode cX3_canBe 60 = .ok (.iconst 1, 1) := by decide +kernel
theorem dX3_canBe_61 : decode cX3_canBe 61 = .ok (.iload 4, 2) := by decide +kernel
theorem dX3_canBe_63 : decode cX3_canBe 63 = .ok (.sipush 1000, 3) := by decide +kernel
theorem dX3_canBe_66 : decode cX3_canBe 66 = .ok (.irem, 1) := by decide +kernel
theorem dX3_canBe_67 : decode cX3_canBe 67 = .ok (.iload_n 1, 1) := by decide +kernel
theorem dX3_canBe_68 : decode cX3_canBe 68 = .ok (.invokestatic 30, 3) := by decide +kernel
theorem dX3_canBe_71 : decode cX3_canBe 71 = .ok (.ifCond .eq 7, 3) := by decide +kernel
theorem dX3_canBe_74 : decode cX3_canBe 74 = .ok (.iconst 1, 1) := by decide +kernel
theorem dX3_canBe_75 : decode cX3_canBe 75 = .ok (.goto 4, 3) := by decide +kernel
theorem dX3_canBe_78 : decode cX3_canBe 78 = .ok (.iconst 0, 1) := by decide +kernel
theorem dX3_canBe_79 : decode cX3_canBe 79 = .ok (.ireturn, 1) := by decide +kernel
theorem dX6_init_0 : decode cX6_init 0 = .ok (.aload_n 0, 1) := by decide +kernel
theorem dX6_init_1 : decode cX6_init 1 = .ok (.invokespecial 3, 3) := by decide +kernel
theorem dX6_init_4 : decode cX6_init 4 = .ok (.aload_n 0, 1) := by decide +kernel
theorem dX6_init_5 : decode cX6_init 5 = .ok (.new 9, 3) := by decide +kernel
theorem dX6_init_8 : decode cX6_init 8 = .ok (.dup, 1) := by decide +kernel
theorem dX6_init_9 : decode cX6_init 9 = .ok (.invokespecial 11, 3) := by decide +kernel
theorem dX6_init_12 : decode cX6_init 12 = .ok (.putfield 12, 3) := by decide +kernel
theorem dX6_init_15 : decode cX6_init 15 = .ok (.aload_n 0, 1) := by decide +kernel
theorem dX6_init_16 : decode cX6_init 16 = .ok (.bipush 8, 2) := by decide +kernel
theorem dX6_init_18 : decode cX6_init 18 = .ok (.newarray .boolean, 2) := by decide +kernel
theorem dX6_init_20 : decode cX6_init 20 = .ok (.putfield 18, 3) := by decide +kernel
theorem dX6_init_23 : decode cX6_init 23 = .ok (.aload_n 0, 1) := by decide +kernel
theorem dX6_init_24 : decode cX6_init 24 = .ok (.bipush 8, 2) := by decide +kernel
theorem dX6_init_26 : decode cX6_init 26 = .ok (.newarray .int, 2) := by decide +kernel
theorem dX6_init_28 : decode cX6_init 28 = .ok (.putfield 22, 3) := by decide +kernel
theorem dX6_init_31 : decode cX6_init 31 = .ok (.aload_n 0, 1) := by decide +kernel
theorem dX6_init_32 : decode cX6_init 32 = .ok (.bipush 8, 2) := by decide +kernel
theorem dX6_init_34 : decode cX6_init 34 = .ok (.newarray .int, 2) := by decide +kernel
theorem dX6_init_36 : decode cX6_init 36 = .ok (.putfield 26, 3) := by decide +kernel
theorem dX6_init_39 : decode cX6_init 39 = .ok (.aload_n 0, 1) := by decide +kernel
theorem dX6_init_40 : decode cX6_init 40 = .ok (.bipush 8, 2) := by decide +kernel
theorem dX6_init_42 : decode cX6_init 42 = .ok (.newarray .int, 2) := by decide +kernel
theorem dX6_init_44 : decode cX6_init 44 = .ok (.putfield 29, 3) := by decide +kernel
theorem dX6_init_47 : decode cX6_init 47 = .ok (.aload_n 0, 1) := by decide +kernel
theorem dX6_init_48 : decode cX6_init 48 = .ok (.bipush 8, 2) := by decide +kernel
theorem dX6_init_50 : decode cX6_init 50 = .ok (.newarray .int, 2) := by decide +kernel
theorem dX6_init_52 : decode cX6_init 52 = .ok (.putfield 32, 3) := by decide +kernel
theorem dX6_init_55 : decode cX6_init 55 = .ok (.aload_n 0, 1) := by decide +kernel
theorem dX6_init_56 : decode cX6_init 56 = .ok (.bipush 8, 2) := by decide +kernel
theorem dX6_init_58 : decode cX6_init 58 = .ok (.newarray .int, 2) := by decide +kernel
theorem dX6_init_60 : decode cX6_init 60 = .ok (.putfield 35, 3) := by decide +kernel
theorem dX6_init_63 : decode cX6_init 63 = .ok (.aload_n 0, 1) := by decide +kernel
theorem dX6_init_64 : decode cX6_init 64 = .ok (.iconst 4, 1) := by decide +kernel
theorem dX6_init_65 : decode cX6_init 65 = .ok (.newarray .int, 2) := by decide +kernel
theorem dX6_init_67 : decode cX6_init 67 = .ok (.putfield 38, 3) := by decide +kernel
theorem dX6_init_70 : decode cX6_init 70 = .ok (.aload_n 0, 1) := by decide +kernel
theorem dX6_init_71 : decode cX6_init 71 = .ok (.iconst 4, 1) := by decide +kernel
theorem dX6_init_72 : decode cX6_init 72 = .ok (.newarray .int, 2) := by decide +kernel
theorem dX6_init_74 : decode cX6_init 74 = .ok (.putfield 41, 3) := by decide +kernel
theorem dX6_init_77 : decode cX6_init 77 = .ok (.aload_n 0, 1) := by decide +kernel
theorem dX6_init_78 : decode cX6_init 78 = .ok (.iconst 4, 1) := by decide +kernel
theorem dX6_init_79 : decode cX6_init 79 = .ok (.newarray .int, 2) := by decide +kernel
theorem dX6_init_81 : decode cX6_init 81 = .ok (.putfield 44, 3) := by decide +kernel
theorem dX6_init_84 : decode cX6_init 84 = .ok (.return_, 1) := by decide +kernel
theorem dX8_init_0 : decode cX8_init 0 = .ok (.aload_n 0, 1) := by decide +kernel
theorem dX8_init_1 : decode cX8_init 1 = .ok (.invokespecial 3, 3) := by decide +kernel
theorem dX8_init_4 : decode cX8_init 4 = .ok (.aload_n 0, 1) := by decide +kernel
theorem dX8_init_5 : decode cX8_init 5 = .ok (.bipush 6, 2) := by decide +kernel
theorem dX8_init_7 : decode cX8_init 7 = .ok (.newarray .int, 2) := by decide +kernel
theorem dX8_init_9 : decode cX8_init 9 = .ok (.putfield 9, 3) := by decide +kernel
theorem dX8_init_12 : decode cX8_init 12 = .ok (.aload_n 0, 1) := by decide +kernel
theorem dX8_init_13 : decode cX8_init 13 = .ok (.bipush 6, 2) := by decide +kernel
theorem dX8_init_15 : decode cX8_init 15 = .ok (.newarray .int, 2) := by decide +kernel
theorem dX8_init_17 : decode cX8_init 17 = .ok (.putfield 15, 3) := by decide +kernel
theorem dX8_init_20 : decode cX8_init 20 = .ok (.aload_n 0, 1) := by decide +kernel
theorem dX8_init_21 : decode cX8_init 21 = .ok (.bipush 6, 2) := by decide +kernel
theorem dX8_init_23 : decode cX8_init 23 = .ok (.newarray .int, 2) := by decide +kernel
theorem dX8_init_25 : decode cX8_init 25 = .ok (.putfield 18, 3) := by decide +kernel
theorem dX8_init_28 : decode cX8_init 28 = .ok (.aload_n 0, 1) := by decide +kernel
theorem dX8_init_29 : decode cX8_init 29 = .ok (.bipush 6, 2) := by decide +kernel
theorem dX8_init_31 : decode cX8_init 31 = .ok (.newarray .int, 2) := by decide +kernel
theorem dX8_init_33 : decode cX8_init 33 = .ok (.putfield 21, 3) := by decide +kernel
theorem dX8_init_36 : decode cX8_init 36 = .ok (.aload_n 0, 1) := by decide +kernel
theorem dX8_init_37 : decode cX8_init 37 = .ok (.bipush 10, 2) := by decide +kernel
theorem dX8_init_39 : decode cX8_init 39 = .ok (.newarray .int, 2) := by decide +kernel
theorem dX8_init_41 : decode cX8_init 41 = .ok (.putfield 24, 3) := by decide +kernel
theorem dX8_init_44 : decode cX8_init 44 = .ok (.aload_n 0, 1) := by decide +kernel
theorem dX8_init_45 : decode cX8_init 45 = .ok (.bipush 10, 2) := by decide +kernel
theorem dX8_init_47 : decode cX8_init 47 = .ok (.newarray .int, 2) := by decide +kernel
theorem dX8_init_49 : decode cX8_init 49 = .ok (.putfield 27, 3) := by decide +kernel
theorem dX8_init_52 : decode cX8_init 52 = .ok (.aload_n 0, 1) := by decide +kernel
theorem dX8_init_53 : decode cX8_init 53 = .ok (.bipush 10, 2) := by decide +kernel
theorem dX8_init_55 : decode cX8_init 55 = .ok (.newarray .int, 2) := by decide +kernel
theorem dX8_init_57 : decode cX8_init 57 = .ok (.putfield 30, 3) := by decide +kernel
theorem dX8_init_60 : decode cX8_init 60 = .ok (.iconst 0, 1) := by decide +kernel
theorem dX8_init_61 : decode cX8_init 61 = .ok (.istore_n 1, 1) := by decide +kernel
theorem dX8_init_62 : decode cX8_init 62 = .ok (.iload_n 1, 1) := by decide +kernel
theorem dX8_init_63 : decode cX8_init 63 = .ok (.bipush 6, 2) := by decide +kernel
theorem dX8_init_65 : decode cX8_init 65 = .ok (.if_icmp .ge 16, 3) := by decide +kernel
theorem dX8_init_68 : decode cX8_init 68 = .ok (.aload_n 0, 1) := by decide +kernel
theorem dX8_init_69 : decode cX8_init 69 = .ok (.getfield 9, 3) := by decide +kernel
theorem dX8_init_72 : decode cX8_init 72 = .ok (.iload_n 1, 1) := by decide +kernel
theorem dX8_init_73 : decode cX8_init 73 = .ok (.iconst (-1), 1) := by decide +kernel
theorem dX8_init_74 : decode cX8_init 74 = .ok (.iastore, 1) := by decide +kernel
theorem dX8_init_75 : decode cX8_init 75 = .ok (.iinc 1 1, 3) := by decide +kernel
theorem dX8_init_78 : decode cX8_init 78 = .ok (.goto (-16), 3) := by decide +kernel
theorem dX8_init_81 : decode cX8_init 81 = .ok (.return_, 1) := by decide +kernel
theorem dX10_init_0 : decode cX10_init 0 = .ok (.aload_n 0, 1) := by decide +kernel
theorem dX10_init_1 : decode cX10_init 1 = .ok (.invokespecial 1, 3) := by decide +kernel
theorem dX10_init_4 : decode cX10_init 4 = .ok (.aload_n 0, 1) := by decide +kernel
theorem dX10_init_5 : decode cX10_init 5 = .ok (.bipush 8, 2) := by decide +kernel
theorem dX10_init_7 : decode cX10_init 7 = .ok (.newarray .int, 2) := by decide +kernel
theorem dX10_init_9 : decode cX10_init 9 = .ok (.putfield 9, 3) := by decide +kernel
theorem dX10_init_12 : decode cX10_init 12 = .ok (.aload_n 0, 1) := by decide +kernel
theorem dX10_init_13 : decode cX10_init 13 = .ok (.bipush 8, 2) := by decide +kernel
theorem dX10_init_15 : decode cX10_init 15 = .ok (.newarray .int, 2) := by decide +kernel
theorem dX10_init_17 : decode cX10_init 17 = .ok (.putfield 13, 3) := by decide +kernel
theorem dX10_init_20 : decode cX10_init 20 = .ok (.aload_n 0, 1) := by decide +kernel
theorem dX10_init_21 : decode cX10_init 21 = .ok (.bipush 8, 2) := by decide +kernel
theorem dX10_init_23 : decode cX10_init 23 = .ok (.newarray .int, 2) := by decide +kernel
theorem dX10_init_25 : decode cX10_init 25 = .ok (.putfield 16, 3) := by decide +kernel
theorem dX10_init_28 : decode cX10_init 28 = .ok (.aload_n 0, 1) := by decide +kernel
theorem dX10_init_29 : decode cX10_init 29 = .ok (.bipush 8, 2) := by decide +kernel
theorem dX10_init_31 : decode cX10_init 31 = .ok (.newarray .int, 2) := by decide +kernel
theorem dX10_init_33 : decode cX10_init 33 = .ok (.putfield 19, 3) := by decide +kernel
theorem dX10_init_36 : decode cX10_init 36 = .ok (.aload_n 0, 1) := by decide +kernel
theorem dX10_init_37 : decode cX10_init 37 = .ok (.bipush 8, 2) := by decide +kernel
theorem dX10_init_39 : decode cX10_init 39 = .ok (.newarray .int, 2) := by decide +kernel
theorem dX10_init_41 : decode cX10_init 41 = .ok (.putfield 22, 3) := by decide +kernel
theorem dX10_init_44 : decode cX10_init 44 = .ok (.aload_n 0, 1) := by decide +kernel
theorem dX10_init_45 : decode cX10_init 45 = .ok (.bipush 8, 2) := by decide +kernel
theorem dX10_init_47 : decode cX10_init 47 = .ok (.newarray .boolean, 2) := by decide +kernel
theorem dX10_init_49 : decode cX10_init 49 = .ok (.putfield 25, 3) := by decide +kernel
theorem dX10_init_52 : decode cX10_init 52 = .ok (.return_, 1) := by decide +kernel
theorem dX11_feed_0 : decode cX11_feed 0 = .ok (.aload_n 0, 1) := by decide +kernel
theorem dX11_feed_1 : decode cX11_feed 1 = .ok (.getfield 10, 3) := by decide +kernel
theorem dX11_feed_4 : decode cX11_feed 4 = .ok (.bipush 20, 2) := by decide +kernel
theorem dX11_feed_6 : decode cX11_feed 6 = .ok (.invokevirtual 98, 3) := by decide +kernel
theorem dX11_feed_9 : decode cX11_feed 9 = .ok (.ifCond .ne 5, 3) := by decide +kernel
theorem dX11_feed_12 : decode cX11_feed 12 = .ok (.iconst (-1), 1) := by decide +kernel
theorem dX11_feed_13 : decode cX11_feed 13 = .ok (.ireturn, 1) := by decide +kernel
theorem dX11_feed_14 : decode cX11_feed 14 = .ok (.aload_n 0, 1) := by decide +kernel
theorem dX11_feed_15 : decode cX11_feed 15 = .ok (.getfield 10, 3) := by decide +kernel
theorem dX11_feed_18 : decode cX11_feed 18 = .ok (.iload_n 1, 1) := by decide +kernel
theorem dX11_feed_19 : decode cX11_feed 19 = .ok (.invokevirtual 102, 3) := by decide +kernel
theorem dX11_feed_22 : decode cX11_feed 22 = .ok (.aload_n 0, 1) := by decide +kernel
theorem dX11_feed_23 : decode cX11_feed 23 = .ok (.getfield 10, 3) := by decide +kernel
theorem dX11_feed_26 : decode cX11_feed 26 = .ok (.iload_n 2, 1) := by decide +kernel
theorem dX11_feed_27 : decode cX11_feed 27 = .ok (.invokevirtual 102, 3) := by decide +kernel
theorem dX11_feed_30 : decode cX11_feed 30 = .ok (.aload_n 0, 1) := by decide +kernel
theorem dX11_feed_31 : decode cX11_feed 31 = .ok (.getfield 10, 3) := by decide +kernel
theorem dX11_feed_34 : decode cX11_feed 34 = .ok (.iload_n 3, 1) := by decide +kernel
theorem dX11_feed_35 : decode cX11_feed 35 = .ok (.invokevirtual 102, 3) := by decide +kernel
theorem dX11_feed_38 : decode cX11_feed 38 = .ok (.aload_n 0, 1) := by decide +kernel
theorem dX11_feed_39 : decode cX11_feed 39 = .ok (.getfield 10, 3) := by decide +kernel
theorem dX11_feed_42 : decode cX11_feed 42 = .ok (.iload 4, 2) := by decide +kernel
theorem dX11_feed_44 : decode cX11_feed 44 = .ok (.invokevirtual 102, 3) := by decide +kernel
theorem dX11_feed_47 : decode cX11_feed 47 = .ok (.aload_n 0, 1) := by decide +kernel
theorem dX11_feed_48 : decode cX11_feed 48 = .ok (.getfield 10, 3) := by decide +kernel
theorem dX11_feed_51 : decode cX11_feed 51 = .ok (.iload 5, 2) := by decide +kernel
theorem dX11_feed_53 : decode cX11_feed 53 = .ok (.invokevirtual 102, 3) := by decide +kernel
theorem dX11_feed_56 : decode cX11_feed 56 = .ok (.aload_n 0, 1) := by decide +kernel
theorem dX11_feed_57 : decode cX11_feed 57 = .ok (.getfield 10, 3) := by decide +kernel
theorem dX11_feed_60 : decode cX11_feed 60 = .ok (.getfield 106, 3) := by decide +kernel
theorem dX11_feed_63 : decode cX11_feed 63 = .ok (.ireturn, 1) := by decide +kernel
theorem dX11_end_0 : decode cX11_end 0 = .ok (.aload_n 0, 1) := by decide +kernel
theorem dX11_end_1 : decode cX11_end 1 = .ok (.getfield 10, 3) := by decide +kernel
theorem dX11_end_4 : decode cX11_end 4 = .ok (.iload_n 1, 1) := by decide +kernel
theorem dX11_end_5 : decode cX11_end 5 = .ok (.invokevirtual 109, 3) := by decide +kernel
theorem dX11_end_8 : decode cX11_end 8 = .ok (.ireturn, 1) := by decide +kernel
theorem dX11_fault_0 : decode cX11_fault 0 = .ok (.aload_n 0, 1) := by decide +kernel
theorem dX11_fault_1 : decode cX11_fault 1 = .ok (.getfield 21, 3) := by decide +kernel
theorem dX11_fault_4 : decode cX11_fault 4 = .ok (.aload_n 0, 1) := by decide +kernel
theorem dX11_fault_5 : decode cX11_fault 5 = .ok (.getfield 84, 3) := by decide +kernel
theorem dX11_fault_8 : decode cX11_fault 8 = .ok (.invokevirtual 112, 3) := by decide +kernel
theorem dX11_fault_11 : decode cX11_fault 11 = .ok (.ireturn, 1) := by decide +kernel
theorem dX11_room_0 : decode cX11_room 0 = .ok (.aload_n 0, 1) := by decide +kernel
theorem dX11_room_1 : decode cX11_room 1 = .ok (.getfield 88, 3) := by decide +kernel
theorem dX11_room_4 : decode cX11_room 4 = .ok (.bipush 6, 2) := by decide +kernel
theorem dX11_room_6 : decode cX11_room 6 = .ok (.if_icmp .ge 18, 3) := by decide +kernel
theorem dX11_room_9 : decode cX11_room 9 = .ok (.aload_n 0, 1) := by decide +kernel
theorem dX11_room_10 : decode cX11_room 10 = .ok (.getfield 21, 3) := by decide +kernel
theorem dX11_room_13 : decode cX11_room 13 = .ok (.aload_n 0, 1) := by decide +kernel
theorem dX11_room_14 : decode cX11_room 14 = .ok (.getfield 84, 3) := by decide +kernel
theorem dX11_room_17 : decode cX11_room 17 = .ok (.invokevirtual 112, 3) := by decide +kernel
theorem dX11_room_20 : decode cX11_room 20 = .ok (.iconst (-1), 1) := by decide +kernel
theorem dX11_room_21 : decode cX11_room 21 = .ok (.if_icmp .eq 5, 3) := by decide +kernel
theorem dX11_room_24 : decode cX11_room 24 = .ok (.iconst (-1), 1) := by decide +kernel
theorem dX11_room_25 : decode cX11_room 25 = .ok (.ireturn, 1) := by decide +kernel
theorem dX11_room_26 : decode cX11_room 26 = .ok (.aload_n 0, 1) := by decide +kernel
theorem dX11_room_27 : decode cX11_room 27 = .ok (.getfield 27, 3) := by decide +kernel
theorem dX11_room_30 : decode cX11_room 30 = .ok (.aload_n 0, 1) := by decide +kernel
theorem dX11_room_31 : decode cX11_room 31 = .ok (.getfield 88, 3) := by decide +kernel
theorem dX11_room_34 : decode cX11_room 34 = .ok (.aload_n 0, 1) := by decide +kernel
theorem dX11_room_35 : decode cX11_room 35 = .ok (.getfield 84, 3) := by decide +kernel
theorem dX11_room_38 : decode cX11_room 38 = .ok (.aastore, 1) := by decide +kernel
theorem dX11_room_39 : decode cX11_room 39 = .ok (.aload_n 0, 1) := by decide +kernel
theorem dX11_room_40 : decode cX11_room 40 = .ok (.new 25, 3) := by decide +kernel
theorem dX11_room_43 : decode cX11_room 43 = .ok (.dup, 1) := by decide +kernel
theorem dX11_room_44 : decode cX11_room 44 = .ok (.invokespecial 83, 3) := by decide +kernel
theorem dX11_room_47 : decode cX11_room 47 = .ok (.putfield 84, 3) := by decide +kernel
theorem dX11_room_50 : decode cX11_room 50 = .ok (.aload_n 0, 1) := by decide +kernel
theorem dX11_room_51 : decode cX11_room 51 = .ok (.getfield 10, 3) := by decide +kernel
theorem dX11_room_54 : decode cX11_room 54 = .ok (.iconst 0, 1) := by decide +kernel
theorem dX11_room_55 : decode cX11_room 55 = .ok (.invokevirtual 109, 3) := by decide +kernel
theorem dX11_room_58 : decode cX11_room 58 = .ok (.pop, 1) := by decide +kernel
theorem dX11_room_59 : decode cX11_room 59 = .ok (.aload_n 0, 1) := by decide +kernel
theorem dX11_room_60 : decode cX11_room 60 = .ok (.dup, 1) := by decide +kernel
theorem dX11_room_61 : decode cX11_room 61 = .ok (.getfield 88, 3) := by decide +kernel
theorem dX11_room_64 : decode cX11_room 64 = .ok (.iconst 1, 1) := by decide +kernel
theorem dX11_room_65 : decode cX11_room 65 = .ok (.iadd, 1) := by decide +kernel
theorem dX11_room_66 : decode cX11_room 66 = .ok (.putfield 88, 3) := by decide +kernel
theorem dX11_room_69 : decode cX11_room 69 = .ok (.aload_n 0, 1) := by decide +kernel
theorem dX11_room_70 : decode cX11_room 70 = .ok (.getfield 88, 3) := by decide +kernel
theorem dX11_room_73 : decode cX11_room 73 = .ok (.iconst 1, 1) := by decide +kernel
theorem dX11_room_74 : decode cX11_room 74 = .ok (.isub, 1) := by decide +kernel
theorem dX11_room_75 : decode cX11_room 75 = .ok (.ireturn, 1) := by decide +kernel
theorem dX11_of_0 : decode cX11_of 0 = .ok (.aload_n 0, 1) := by decide +kernel
theorem dX11_of_1 : decode cX11_of 1 = .ok (.iload_n 1, 1) := by decide +kernel
theorem dX11_of_2 : decode cX11_of 2 = .ok (.invokevirtual 116, 3) := by decide +kernel
theorem dX11_of_5 : decode cX11_of 5 = .ok (.astore_n 3, 1) := by decide +kernel
theorem dX11_of_6 : decode cX11_of 6 = .ok (.aload_n 3, 1) := by decide +kernel
theorem dX11_of_7 : decode cX11_of 7 = .ok (.ifnull 16, 3) := by decide +kernel
theorem dX11_of_10 : decode cX11_of 10 = .ok (.iload_n 2, 1) := by decide +kernel
theorem dX11_of_11 : decode cX11_of 11 = .ok (.iconst 3, 1) := by decide +kernel
theorem dX11_of_12 : decode cX11_of 12 = .ok (.if_icmp .le 13, 3) := by decide +kernel
theorem dX11_of_15 : decode cX11_of 15 = .ok (.aload_n 0, 1) := by decide +kernel
theorem dX11_of_16 : decode cX11_of 16 = .ok (.iload_n 1, 1) := by decide +kernel
theorem dX11_of_17 : decode cX11_of 17 = .ok (.invokevirtual 120, 3) := by decide +kernel
theorem dX11_of_20 : decode cX11_of 20 = .ok (.ifCond .ne 5, 3) := by decide +kernel
theorem dX11_of_23 : decode cX11_of 23 = .ok (.iconst (-1), 1) := by decide +kernel
theorem dX11_of_24 : decode cX11_of 24 = .ok (.ireturn, 1) := by decide +kernel
theorem dX11_of_25 : decode cX11_of 25 = .ok (.iload_n 2, 1) := by decide +kernel
theorem dX11_of_26 : decode cX11_of 26 = .ok (.tableswitch 132 0 9 #[54, 62, 67, 75, 80, 90, 98, 106, 114, 122], 54) := by decide +kernel
theorem dX11_of_80 : decode cX11_of 80 = .ok (.aload_n 3, 1) := by decide +kernel
theorem dX11_of_81 : decode cX11_of 81 = .ok (.getfield 123, 3) := by decide +kernel
theorem dX11_of_84 : decode cX11_of 84 = .ok (.getfield 127, 3) := by decide +kernel
theorem dX11_of_87 : decode cX11_of 87 = .ok (.ireturn, 1) := by decide +kernel
theorem dX11_of_88 : decode cX11_of 88 = .ok (.aload_n 3, 1) := by decide +kernel
theorem dX11_of_89 : decode cX11_of 89 = .ok (.getfield 132, 3) := by decide +kernel
theorem dX11_of_92 : decode cX11_of 92 = .ok (.ireturn, 1) := by decide +kernel
theorem dX11_of_93 : decode cX11_of 93 = .ok (.aload_n 3, 1) := by decide +kernel
theorem dX11_of_94 : decode cX11_of 94 = .ok (.getfield 123, 3) := by decide +kernel
theorem dX11_of_97 : decode cX11_of 97 = .ok (.getfield 135, 3) := by decide +kernel
theorem dX11_of_100 : decode cX11_of 100 = .ok (.ireturn, 1) := by decide +kernel
theorem dX11_of_101 : decode cX11_of 101 = .ok (.aload_n 3, 1) := by decide +kernel
theorem dX11_of_102 : decode cX11_of 102 = .ok (.getfield 138, 3) := by decide +kernel
theorem dX11_of_105 : decode cX11_of 105 = .ok (.ireturn, 1) := by decide +kernel
theorem dX11_of_106 : decode cX11_of 106 = .ok (.aload_n 0, 1) := by decide +kernel
theorem dX11_of_107 : decode cX11_of 107 = .ok (.getfield 40, 3) := by decide +kernel
theorem dX11_of_110 : decode cX11_of 110 = .ok (.getfield 141, 3) := by decide +kernel
theorem dX11_of_113 : decode cX11_of 113 = .ok (.iload_n 1, 1) := by decide +kernel
theorem dX11_of_114 : decode cX11_of 114 = .ok (.iaload, 1) := by decide +kernel
theorem dX11_of_115 : decode cX11_of 115 = .ok (.ireturn, 1) := by decide +kernel
theorem dX11_of_116 : decode cX11_of 116 = .ok (.aload_n 0, 1) := by decide +kernel
theorem dX11_of_117 : decode cX11_of 117 = .ok (.getfield 51, 3) := by decide +kernel
theorem dX11_of_120 : decode cX11_of 120 = .ok (.getfield 144, 3) := by decide +kernel
theorem dX11_of_123 : decode cX11_of 123 = .ok (.ireturn, 1) := by decide +kernel
theorem dX11_of_124 : decode cX11_of 124 = .ok (.aload_n 0, 1) := by decide +kernel
theorem dX11_of_125 : decode cX11_of 125 = .ok (.getfield 51, 3) := by decide +kernel
theorem dX11_of_128 : decode cX11_of 128 = .ok (.getfield 147, 3) := by decide +kernel
theorem dX11_of_131 : decode cX11_of 131 = .ok (.ireturn, 1) := by decide +kernel
theorem dX11_of_132 : decode cX11_of 132 = .ok (.aload_n 0, 1) := by decide +kernel
theorem dX11_of_133 : decode cX11_of 133 = .ok (.getfield 51, 3) := by decide +kernel
theorem dX11_of_136 : decode cX11_of 136 = .ok (.getfield 150, 3) := by decide +kernel
theorem dX11_of_139 : decode cX11_of 139 = .ok (.ireturn, 1) := by decide +kernel
theorem dX11_of_140 : decode cX11_of 140 = .ok (.aload_n 0, 1) := by decide +kernel
theorem dX11_of_141 : decode cX11_of 141 = .ok (.getfield 51, 3) := by decide +kernel
theorem dX11_of_144 : decode cX11_of 144 = .ok (.getfield 153, 3) := by decide +kernel
theorem dX11_of_147 : decode cX11_of 147 = .ok (.ireturn, 1) := by decide +kernel
theorem dX11_of_148 : decode cX11_of 148 = .ok (.aload_n 0, 1) := by decide +kernel
theorem dX11_of_149 : decode cX11_of 149 = .ok (.getfield 40, 3) := by decide +kernel
theorem dX11_of_152 : decode cX11_of 152 = .ok (.getfield 156, 3) := by decide +kernel
theorem dX11_of_155 : decode cX11_of 155 = .ok (.iload_n 1, 1) := by decide +kernel
theorem dX11_of_156 : decode cX11_of 156 = .ok (.iaload, 1) := by decide +kernel
theorem dX11_of_157 : decode cX11_of 157 = .ok (.ireturn, 1) := by decide +kernel
theorem dX11_of_158 : decode cX11_of 158 = .ok (.iconst (-1), 1) := by decide +kernel
theorem dX11_of_159 : decode cX11_of 159 = .ok (.ireturn, 1) := by decide +kernel
theorem dX11_height_0 : decode cX11_height 0 = .ok (.aload_n 0, 1) := by decide +kernel
theorem dX11_height_1 : decode cX11_height 1 = .ok (.iload_n 1, 1) := by decide +kernel
theorem dX11_height_2 : decode cX11_height 2 = .ok (.invokevirtual 116, 3) := by decide +kernel
theorem dX11_height_5 : decode cX11_height 5 = .ok (.astore_n 3, 1) := by decide +kernel
theorem dX11_height_6 : decode cX11_height 6 = .ok (.aload_n 3, 1) := by decide +kernel
theorem dX11_height_7 : decode cX11_height 7 = .ok (.ifnull 20, 3) := by decide +kernel
theorem dX11_height_10 : decode cX11_height 10 = .ok (.iconst 0, 1) := by decide +kernel
theorem dX11_height_11 : decode cX11_height 11 = .ok (.iload_n 2, 1) := by decide +kernel
theorem dX11_height_12 : decode cX11_height 12 = .ok (.aload_n 3, 1) := by decide +kernel
theorem dX11_height_13 : decode cX11_height 13 = .ok (.getfield 123, 3) := by decide +kernel
theorem dX11_height_16 : decode cX11_height 16 = .ok (.getfield 135, 3) := by decide +kernel
theorem dX11_height_19 : decode cX11_height 19 = .ok (.iconst 1, 1) := by decide +kernel
theorem dX11_height_20 : decode cX11_height 20 = .ok (.isub, 1) := by decide +kernel
theorem dX11_height_21 : decode cX11_height 21 = .ok (.invokestatic 159, 3) := by decide +kernel
theorem dX11_height_24 : decode cX11_height 24 = .ok (.ifCond .ne 5, 3) := by decide +kernel
theorem dX11_height_27 : decode cX11_height 27 = .ok (.iconst (-1), 1) := by decide +kernel
theorem dX11_height_28 : decode cX11_height 28 = .ok (.ireturn, 1) := by decide +kernel
theorem dX11_height_29 : decode cX11_height 29 = .ok (.aload_n 3, 1) := by decide +kernel
theorem dX11_height_30 : decode cX11_height 30 = .ok (.getfield 123, 3) := by decide +kernel
theorem dX11_height_33 : decode cX11_height 33 = .ok (.iload_n 2, 1) := by decide +kernel
theorem dX11_height_34 : decode cX11_height 34 = .ok (.invokevirtual 163, 3) := by decide +kernel
theorem dX11_height_37 : decode cX11_height 37 = .ok (.ireturn, 1) := by decide +kernel
theorem dX11_paper_0 : decode cX11_paper 0 = .ok (.aload_n 0, 1) := by decide +kernel
theorem dX11_paper_1 : decode cX11_paper 1 = .ok (.getfield 92, 3) := by decide +kernel
theorem dX11_paper_4 : decode cX11_paper 4 = .ok (.iconst 4, 1) := by decide +kernel
theorem dX11_paper_5 : decode cX11_paper 5 = .ok (.if_icmp .ge 16, 3) := by decide +kernel
theorem dX11_paper_8 : decode cX11_paper 8 = .ok (.iload_n 1, 1) := by decide +kernel
theorem dX11_paper_9 : decode cX11_paper 9 = .ok (.iload_n 2, 1) := by decide +kernel
theorem dX11_paper_10 : decode cX11_paper 10 = .ok (.iload_n 3, 1) := by decide +kernel
theorem dX11_paper_11 : decode cX11_paper 11 = .ok (.iload 4, 2) := by decide +kernel
theorem dX11_paper_13 : decode cX11_paper 13 = .ok (.iload 5, 2) := by decide +kernel
theorem dX11_paper_15 : decode cX11_paper 15 = .ok (.invokestatic 167, 3) := by decide +kernel
theorem dX11_paper_18 : decode cX11_paper 18 = .ok (.ifCond .ne 5, 3) := by decide +kernel
theorem dX11_paper_21 : decode cX11_paper 21 = .ok (.iconst (-1), 1) := by decide +kernel
theorem dX11_paper_22 : decode cX11_paper 22 = .ok (.ireturn, 1) := by decide +kernel
theorem dX11_paper_23 : decode cX11_paper 23 = .ok (.aload_n 0, 1) := by decide +kernel
theorem dX11_paper_24 : decode cX11_paper 24 = .ok (.getfield 33, 3) := by decide +kernel
theorem dX11_paper_27 : decode cX11_paper 27 = .ok (.aload_n 0, 1) := by decide +kernel
theorem dX11_paper_28 : decode cX11_paper 28 = .ok (.getfield 92, 3) := by decide +kernel
theorem dX11_paper_31 : decode cX11_paper 31 = .ok (.new 31, 3) := by decide +kernel
theorem dX11_paper_34 : decode cX11_paper 34 = .ok (.dup, 1) := by decide +kernel
theorem dX11_paper_35 : decode cX11_paper 35 = .ok (.iload_n 1, 1) := by decide +kernel
theorem dX11_paper_36 : decode cX11_paper 36 = .ok (.iload_n 2, 1) := by decide +kernel
theorem dX11_paper_37 : decode cX11_paper 37 = .ok (.iload_n 3, 1) := by decide +kernel
theorem dX11_paper_38 : decode cX11_paper 38 = .ok (.iload 4, 2) := by decide +kernel
theorem dX11_paper_40 : decode cX11_paper 40 = .ok (.iload 5, 2) := by decide +kernel
theorem dX11_paper_42 : decode cX11_paper 42 = .ok (.invokespecial 171, 3) := by decide +kernel
theorem dX11_paper_45 : decode cX11_paper 45 = .ok (.aastore, 1) := by decide +kernel
theorem dX11_paper_46 : decode cX11_paper 46 = .ok (.aload_n 0, 1) := by decide +kernel
theorem dX11_paper_47 : decode cX11_paper 47 = .ok (.dup, 1) := by decide +kernel
theorem dX11_paper_48 : decode cX11_paper 48 = .ok (.getfield 92, 3) := by decide +kernel
theorem dX11_paper_51 : decode cX11_paper 51 = .ok (.iconst 1, 1) := by decide +kernel
theorem dX11_paper_52 : decode cX11_paper 52 = .ok (.iadd, 1) := by decide +kernel
theorem dX11_paper_53 : decode cX11_paper 53 = .ok (.putfield 92, 3) := by decide +kernel
theorem dX11_paper_56 : decode cX11_paper 56 = .ok (.aload_n 0, 1) := by decide +kernel
theorem dX11_paper_57 : decode cX11_paper 57 = .ok (.getfield 92, 3) := by decide +kernel
theorem dX11_paper_60 : decode cX11_paper 60 = .ok (.iconst 1, 1) := by decide +kernel
theorem dX11_paper_61 : decode cX11_paper 61 = .ok (.isub, 1) := by decide +kernel
theorem dX11_paper_62 : decode cX11_paper 62 = .ok (.ireturn, 1) := by decide +kernel
theorem dX11_trim_0 : decode cX11_trim 0 = .ok (.iconst 0, 1) := by decide +kernel
theorem dX11_trim_1 : decode cX11_trim 1 = .ok (.iload_n 1, 1) := by decide +kernel
theorem dX11_trim_2 : decode cX11_trim 2 = .ok (.bipush 20, 2) := by decide +kernel
theorem dX11_trim_4 : decode cX11_trim 4 = .ok (.invokestatic 159, 3) := by decide +kernel
theorem dX11_trim_7 : decode cX11_trim 7 = .ok (.ifCond .ne 5, 3) := by decide +kernel
theorem dX11_trim_10 : decode cX11_trim 10 = .ok (.iconst 0, 1) := by decide +kernel
theorem dX11_trim_11 : decode cX11_trim 11 = .ok (.ireturn, 1) := by decide +kernel
theorem dX11_trim_12 : decode cX11_trim 12 = .ok (.aload_n 0, 1) := by decide +kernel
theorem dX11_trim_13 : decode cX11_trim 13 = .ok (.iload_n 1, 1) := by decide +kernel
theorem dX11_trim_14 : decode cX11_trim 14 = .ok (.putfield 95, 3) := by decide +kernel
theorem dX11_trim_17 : decode cX11_trim 17 = .ok (.iconst 1, 1) := by decide +kernel
theorem dX11_trim_18 : decode cX11_trim 18 = .ok (.ireturn, 1) := by decide +kernel
theorem dX11_done_0 : decode cX11_done 0 = .ok (.aload_n 0, 1) := by decide +kernel
theorem dX11_done_1 : decode cX11_done 1 = .ok (.iload_n 1, 1) := by decide +kernel
theorem dX11_done_2 : decode cX11_done 2 = .ok (.invokevirtual 116, 3) := by decide +kernel
theorem dX11_done_5 : decode cX11_done 5 = .ok (.astore 5, 2) := by decide +kernel
theorem dX11_done_7 : decode cX11_done 7 = .ok (.aload_n 0, 1) := by decide +kernel
theorem dX11_done_8 : decode cX11_done 8 = .ok (.iload_n 2, 1) := by decide +kernel
