theorem dX9_addToken_12 : decode cX9_addToken 12 = .ok (.getfield 13, 3) := by decide +kernel
theorem dX9_addToken_15 : decode cX9_addToken 15 = .ok (.aload_n 0, 1) := by decide +kernel
theorem dX9_addToken_16 : decode cX9_addToken 16 = .ok (.getfield 36, 3) := by decide +kernel
theorem dX9_addToken_19 : decode cX9_addToken 19 = .ok (.iload_n 1, 1) := by decide +kernel
theorem dX9_addToken_20 : decode cX9_addToken 20 = .ok (.iastore, 1) := by decide +kernel
theorem dX9_addToken_21 : decode cX9_addToken 21 = .ok (.aload_n 0, 1) := by decide +kernel
theorem dX9_addToken_22 : decode cX9_addToken 22 = .ok (.getfield 16, 3) := by decide +kernel
theorem dX9_addToken_25 : decode cX9_addToken 25 = .ok (.aload_n 0, 1) := by decide +kernel
theorem dX9_addToken_26 : decode cX9_addToken 26 = .ok (.getfield 36, 3) := by decide +kernel
theorem dX9_addToken_29 : decode cX9_addToken 29 = .ok (.iload_n 2, 1) := by decide +kernel
theorem dX9_addToken_30 : decode cX9_addToken 30 = .ok (.iastore, 1) := by decide +kernel
theorem dX9_addToken_31 : decode cX9_addToken 31 = .ok (.aload_n 0, 1) := by decide +kernel
theorem dX9_addToken_32 : decode cX9_addToken 32 = .ok (.getfield 19, 3) := by decide +kernel
theorem dX9_addToken_35 : decode cX9_addToken 35 = .ok (.aload_n 0, 1) := by decide +kernel
theorem dX9_addToken_36 : decode cX9_addToken 36 = .ok (.getfield 36, 3) := by decide +kernel
theorem dX9_addToken_39 : decode cX9_addToken 39 = .ok (.iload_n 3, 1) := by decide +kernel
theorem dX9_addToken_40 : decode cX9_addToken 40 = .ok (.iastore, 1) := by decide +kernel
theorem dX9_addToken_41 : decode cX9_addToken 41 = .ok (.aload_n 0, 1) := by decide +kernel
theorem dX9_addToken_42 : decode cX9_addToken 42 = .ok (.dup, 1) := by decide +kernel
theorem dX9_addToken_43 : decode cX9_addToken 43 = .ok (.getfield 36, 3) := by decide +kernel
theorem dX9_addToken_46 : decode cX9_addToken 46 = .ok (.iconst 1, 1) := by decide +kernel
theorem dX9_addToken_47 : decode cX9_addToken 47 = .ok (.iadd, 1) := by decide +kernel
theorem dX9_addToken_48 : decode cX9_addToken 48 = .ok (.putfield 36, 3) := by decide +kernel
theorem dX9_addToken_51 : decode cX9_addToken 51 = .ok (.return_, 1) := by decide +kernel
theorem dX9_endOf_0 : decode cX9_endOf 0 = .ok (.iload_n 1, 1) := by decide +kernel
theorem dX9_endOf_1 : decode cX9_endOf 1 = .ok (.istore 4, 2) := by decide +kernel
theorem dX9_endOf_3 : decode cX9_endOf 3 = .ok (.iload 4, 2) := by decide +kernel
theorem dX9_endOf_5 : decode cX9_endOf 5 = .ok (.aload_n 0, 1) := by decide +kernel
theorem dX9_endOf_6 : decode cX9_endOf 6 = .ok (.getfield 22, 3) := by decide +kernel
theorem dX9_endOf_9 : decode cX9_endOf 9 = .ok (.if_icmp .ge 24, 3) := by decide +kernel
theorem dX9_endOf_12 : decode cX9_endOf 12 = .ok (.iload_n 2, 1) := by decide +kernel
theorem dX9_endOf_13 : decode cX9_endOf 13 = .ok (.aload_n 0, 1) := by decide +kernel
theorem dX9_endOf_14 : decode cX9_endOf 14 = .ok (.getfield 9, 3) := by decide +kernel
theorem dX9_endOf_17 : decode cX9_endOf 17 = .ok (.iload 4, 2) := by decide +kernel
theorem dX9_endOf_19 : decode cX9_endOf 19 = .ok (.iaload, 1) := by decide +kernel
theorem dX9_endOf_20 : decode cX9_endOf 20 = .ok (.iload_n 3, 1) := by decide +kernel
theorem dX9_endOf_21 : decode cX9_endOf 21 = .ok (.invokestatic 30, 3) := by decide +kernel
theorem dX9_endOf_24 : decode cX9_endOf 24 = .ok (.ifCond .eq 9, 3) := by decide +kernel
theorem dX9_endOf_27 : decode cX9_endOf 27 = .ok (.iinc 4 1, 3) := by decide +kernel
theorem dX9_endOf_30 : decode cX9_endOf 30 = .ok (.goto (-27), 3) := by decide +kernel
theorem dX9_endOf_33 : decode cX9_endOf 33 = .ok (.iload 4, 2) := by decide +kernel
theorem dX9_endOf_35 : decode cX9_endOf 35 = .ok (.ireturn, 1) := by decide +kernel
theorem dX9_wordKind_0 : decode cX9_wordKind 0 = .ok (.aload_n 0, 1) := by decide +kernel
theorem dX9_wordKind_1 : decode cX9_wordKind 1 = .ok (.ldc 63, 2) := by decide +kernel
theorem dX9_wordKind_3 : decode cX9_wordKind 3 = .ok (.iload_n 1, 1) := by decide +kernel
theorem dX9_wordKind_4 : decode cX9_wordKind 4 = .ok (.iload_n 2, 1) := by decide +kernel
theorem dX9_wordKind_5 : decode cX9_wordKind 5 = .ok (.invokevirtual 65, 3) := by decide +kernel
theorem dX9_wordKind_8 : decode cX9_wordKind 8 = .ok (.ifCond .eq 5, 3) := by decide +kernel
theorem dX9_wordKind_11 : decode cX9_wordKind 11 = .ok (.iconst 0, 1) := by decide +kernel
theorem dX9_wordKind_12 : decode cX9_wordKind 12 = .ok (.ireturn, 1) := by decide +kernel
theorem dX9_wordKind_13 : decode cX9_wordKind 13 = .ok (.aload_n 0, 1) := by decide +kernel
theorem dX9_wordKind_14 : decode cX9_wordKind 14 = .ok (.ldc 69, 2) := by decide +kernel
theorem dX9_wordKind_16 : decode cX9_wordKind 16 = .ok (.iload_n 1, 1) := by decide +kernel
theorem dX9_wordKind_17 : decode cX9_wordKind 17 = .ok (.iload_n 2, 1) := by decide +kernel
theorem dX9_wordKind_18 : decode cX9_wordKind 18 = .ok (.invokevirtual 65, 3) := by decide +kernel
theorem dX9_wordKind_21 : decode cX9_wordKind 21 = .ok (.ifCond .eq 5, 3) := by decide +kernel
theorem dX9_wordKind_24 : decode cX9_wordKind 24 = .ok (.iconst 1, 1) := by decide +kernel
theorem dX9_wordKind_25 : decode cX9_wordKind 25 = .ok (.ireturn, 1) := by decide +kernel
theorem dX9_wordKind_26 : decode cX9_wordKind 26 = .ok (.aload_n 0, 1) := by decide +kernel
theorem dX9_wordKind_27 : decode cX9_wordKind 27 = .ok (.ldc 71, 2) := by decide +kernel
theorem dX9_wordKind_29 : decode cX9_wordKind 29 = .ok (.iload_n 1, 1) := by decide +kernel
theorem dX9_wordKind_30 : decode cX9_wordKind 30 = .ok (.iload_n 2, 1) := by decide +kernel
theorem dX9_wordKind_31 : decode cX9_wordKind 31 = .ok (.invokevirtual 65, 3) := by decide +kernel
theorem dX9_wordKind_34 : decode cX9_wordKind 34 = .ok (.ifCond .eq 5, 3) := by decide +kernel
theorem dX9_wordKind_37 : decode cX9_wordKind 37 = .ok (.iconst 2, 1) := by decide +kernel
theorem dX9_wordKind_38 : decode cX9_wordKind 38 = .ok (.ireturn, 1) := by decide +kernel
theorem dX9_wordKind_39 : decode cX9_wordKind 39 = .ok (.aload_n 0, 1) := by decide +kernel
theorem dX9_wordKind_40 : decode cX9_wordKind 40 = .ok (.ldc 73, 2) := by decide +kernel
theorem dX9_wordKind_42 : decode cX9_wordKind 42 = .ok (.iload_n 1, 1) := by decide +kernel
theorem dX9_wordKind_43 : decode cX9_wordKind 43 = .ok (.iload_n 2, 1) := by decide +kernel
theorem dX9_wordKind_44 : decode cX9_wordKind 44 = .ok (.invokevirtual 65, 3) := by decide +kernel
theorem dX9_wordKind_47 : decode cX9_wordKind 47 = .ok (.ifCond .eq 5, 3) := by decide +kernel
theorem dX9_wordKind_50 : decode cX9_wordKind 50 = .ok (.iconst 3, 1) := by decide +kernel
theorem dX9_wordKind_51 : decode cX9_wordKind 51 = .ok (.ireturn, 1) := by decide +kernel
theorem dX9_wordKind_52 : decode cX9_wordKind 52 = .ok (.aload_n 0, 1) := by decide +kernel
theorem dX9_wordKind_53 : decode cX9_wordKind 53 = .ok (.ldc 75, 2) := by decide +kernel
theorem dX9_wordKind_55 : decode cX9_wordKind 55 = .ok (.iload_n 1, 1) := by decide +kernel
theorem dX9_wordKind_56 : decode cX9_wordKind 56 = .ok (.iload_n 2, 1) := by decide +kernel
theorem dX9_wordKind_57 : decode cX9_wordKind 57 = .ok (.invokevirtual 65, 3) := by decide +kernel
theorem dX9_wordKind_60 : decode cX9_wordKind 60 = .ok (.ifCond .eq 7, 3) := by decide +kernel
theorem dX9_wordKind_63 : decode cX9_wordKind 63 = .ok (.iconst 4, 1) := by decide +kernel
theorem dX9_wordKind_64 : decode cX9_wordKind 64 = .ok (.goto 4, 3) := by decide +kernel
theorem dX9_wordKind_67 : decode cX9_wordKind 67 = .ok (.iconst 5, 1) := by decide +kernel
theorem dX9_wordKind_68 : decode cX9_wordKind 68 = .ok (.ireturn, 1) := by decide +kernel
theorem dX9_spells_0 : decode cX9_spells 0 = .ok (.iload_n 3, 1) := by decide +kernel
theorem dX9_spells_1 : decode cX9_spells 1 = .ok (.iload_n 2, 1) := by decide +kernel
theorem dX9_spells_2 : decode cX9_spells 2 = .ok (.isub, 1) := by decide +kernel
theorem dX9_spells_3 : decode cX9_spells 3 = .ok (.aload_n 1, 1) := by decide +kernel
theorem dX9_spells_4 : decode cX9_spells 4 = .ok (.invokevirtual 77, 3) := by decide +kernel
theorem dX9_spells_7 : decode cX9_spells 7 = .ok (.if_icmp .eq 5, 3) := by decide +kernel
theorem dX9_spells_10 : decode cX9_spells 10 = .ok (.iconst 0, 1) := by decide +kernel
theorem dX9_spells_11 : decode cX9_spells 11 = .ok (.ireturn, 1) := by decide +kernel
theorem dX9_spells_12 : decode cX9_spells 12 = .ok (.iconst 0, 1) := by decide +kernel
theorem dX9_spells_13 : decode cX9_spells 13 = .ok (.istore 4, 2) := by decide +kernel
theorem dX9_spells_15 : decode cX9_spells 15 = .ok (.iload 4, 2) := by decide +kernel
theorem dX9_spells_17 : decode cX9_spells 17 = .ok (.aload_n 1, 1) := by decide +kernel
theorem dX9_spells_18 : decode cX9_spells 18 = .ok (.invokevirtual 77, 3) := by decide +kernel
theorem dX9_spells_21 : decode cX9_spells 21 = .ok (.if_icmp .ge 29, 3) := by decide +kernel
theorem dX9_spells_24 : decode cX9_spells 24 = .ok (.aload_n 0, 1) := by decide +kernel
theorem dX9_spells_25 : decode cX9_spells 25 = .ok (.getfield 9, 3) := by decide +kernel
theorem dX9_spells_28 : decode cX9_spells 28 = .ok (.iload_n 2, 1) := by decide +kernel
theorem dX9_spells_29 : decode cX9_spells 29 = .ok (.iload 4, 2) := by decide +kernel
theorem dX9_spells_31 : decode cX9_spells 31 = .ok (.iadd, 1) := by decide +kernel
theorem dX9_spells_32 : decode cX9_spells 32 = .ok (.iaload, 1) := by decide +kernel
theorem dX9_spells_33 : decode cX9_spells 33 = .ok (.aload_n 1, 1) := by decide +kernel
theorem dX9_spells_34 : decode cX9_spells 34 = .ok (.iload 4, 2) := by decide +kernel
theorem dX9_spells_36 : decode cX9_spells 36 = .ok (.invokevirtual 83, 3) := by decide +kernel
theorem dX9_spells_39 : decode cX9_spells 39 = .ok (.if_icmp .eq 5, 3) := by decide +kernel
theorem dX9_spells_42 : decode cX9_spells 42 = .ok (.iconst 0, 1) := by decide +kernel
theorem dX9_spells_43 : decode cX9_spells 43 = .ok (.ireturn, 1) := by decide +kernel
theorem dX9_spells_44 : decode cX9_spells 44 = .ok (.iinc 4 1, 3) := by decide +kernel
theorem dX9_spells_47 : decode cX9_spells 47 = .ok (.goto (-32), 3) := by decide +kernel
theorem dX9_spells_50 : decode cX9_spells 50 = .ok (.iconst 1, 1) := by decide +kernel
theorem dX9_spells_51 : decode cX9_spells 51 = .ok (.ireturn, 1) := by decide +kernel
theorem dX9_numberFrom_0 : decode cX9_numberFrom 0 = .ok (.iconst 0, 1) := by decide +kernel
theorem dX9_numberFrom_1 : decode cX9_numberFrom 1 = .ok (.istore_n 3, 1) := by decide +kernel
theorem dX9_numberFrom_2 : decode cX9_numberFrom 2 = .ok (.iload_n 1, 1) := by decide +kernel
theorem dX9_numberFrom_3 : decode cX9_numberFrom 3 = .ok (.istore 4, 2) := by decide +kernel
theorem dX9_numberFrom_5 : decode cX9_numberFrom 5 = .ok (.iload 4, 2) := by decide +kernel
theorem dX9_numberFrom_7 : decode cX9_numberFrom 7 = .ok (.iload_n 2, 1) := by decide +kernel
theorem dX9_numberFrom_8 : decode cX9_numberFrom 8 = .ok (.if_icmp .ge 30, 3) := by decide +kernel
theorem dX9_numberFrom_11 : decode cX9_numberFrom 11 = .ok (.ldc 87, 2) := by decide +kernel
theorem dX9_numberFrom_13 : decode cX9_numberFrom 13 = .ok (.iload_n 3, 1) := by decide +kernel
theorem dX9_numberFrom_14 : decode cX9_numberFrom 14 = .ok (.bipush 10, 2) := by decide +kernel
theorem dX9_numberFrom_16 : decode cX9_numberFrom 16 = .ok (.imul, 1) := by decide +kernel
theorem dX9_numberFrom_17 : decode cX9_numberFrom 17 = .ok (.aload_n 0, 1) := by decide +kernel
theorem dX9_numberFrom_18 : decode cX9_numberFrom 18 = .ok (.getfield 9, 3) := by decide +kernel
theorem dX9_numberFrom_21 : decode cX9_numberFrom 21 = .ok (.iload 4, 2) := by decide +kernel
theorem dX9_numberFrom_23 : decode cX9_numberFrom 23 = .ok (.iaload, 1) := by decide +kernel
theorem dX9_numberFrom_24 : decode cX9_numberFrom 24 = .ok (.iadd, 1) := by decide +kernel
theorem dX9_numberFrom_25 : decode cX9_numberFrom 25 = .ok (.bipush 48, 2) := by decide +kernel
theorem dX9_numberFrom_27 : decode cX9_numberFrom 27 = .ok (.isub, 1) := by decide +kernel
theorem dX9_numberFrom_28 : decode cX9_numberFrom 28 = .ok (.invokestatic 88, 3) := by decide +kernel
theorem dX9_numberFrom_31 : decode cX9_numberFrom 31 = .ok (.istore_n 3, 1) := by decide +kernel
theorem dX9_numberFrom_32 : decode cX9_numberFrom 32 = .ok (.iinc 4 1, 3) := by decide +kernel
theorem dX9_numberFrom_35 : decode cX9_numberFrom 35 = .ok (.goto (-30), 3) := by decide +kernel
theorem dX9_numberFrom_38 : decode cX9_numberFrom 38 = .ok (.iload_n 3, 1) := by decide +kernel
theorem dX9_numberFrom_39 : decode cX9_numberFrom 39 = .ok (.ireturn, 1) := by decide +kernel
theorem dX9_signKind_0 : decode cX9_signKind 0 = .ok (.iload_n 0, 1) := by decide +kernel
theorem dX9_signKind_1 : decode cX9_signKind 1 = .ok (.bipush 45, 2) := by decide +kernel
theorem dX9_signKind_3 : decode cX9_signKind 3 = .ok (.if_icmp .ne 6, 3) := by decide +kernel
theorem dX9_signKind_6 : decode cX9_signKind 6 = .ok (.bipush 7, 2) := by decide +kernel
theorem dX9_signKind_8 : decode cX9_signKind 8 = .ok (.ireturn, 1) := by decide +kernel
theorem dX9_signKind_9 : decode cX9_signKind 9 = .ok (.iload_n 0, 1) := by decide +kernel
theorem dX9_signKind_10 : decode cX9_signKind 10 = .ok (.bipush 59, 2) := by decide +kernel
theorem dX9_signKind_12 : decode cX9_signKind 12 = .ok (.if_icmp .ne 8, 3) := by decide +kernel
theorem dX9_signKind_15 : decode cX9_signKind 15 = .ok (.bipush 8, 2) := by decide +kernel
theorem dX9_signKind_17 : decode cX9_signKind 17 = .ok (.goto 5, 3) := by decide +kernel
theorem dX9_signKind_20 : decode cX9_signKind 20 = .ok (.bipush 9, 2) := by decide +kernel
theorem dX9_signKind_22 : decode cX9_signKind 22 = .ok (.ireturn, 1) := by decide +kernel
theorem dX10_clear_0 : decode cX10_clear 0 = .ok (.aload_n 0, 1) := by decide +kernel
theorem dX10_clear_1 : decode cX10_clear 1 = .ok (.iconst 0, 1) := by decide +kernel
theorem dX10_clear_2 : decode cX10_clear 2 = .ok (.putfield 29, 3) := by decide +kernel
theorem dX10_clear_5 : decode cX10_clear 5 = .ok (.aload_n 0, 1) := by decide +kernel
theorem dX10_clear_6 : decode cX10_clear 6 = .ok (.iconst 0, 1) := by decide +kernel
theorem dX10_clear_7 : decode cX10_clear 7 = .ok (.putfield 33, 3) := by decide +kernel
theorem dX10_clear_10 : decode cX10_clear 10 = .ok (.return_, 1) := by decide +kernel
theorem dX10_add_0 : decode cX10_add 0 = .ok (.aload_n 0, 1) := by decide +kernel
theorem dX10_add_1 : decode cX10_add 1 = .ok (.getfield 29, 3) := by decide +kernel
theorem dX10_add_4 : decode cX10_add 4 = .ok (.bipush 8, 2) := by decide +kernel
theorem dX10_add_6 : decode cX10_add 6 = .ok (.if_icmp .lt 4, 3) := by decide +kernel
theorem dX10_add_10 : decode cX10_add 10 = .ok (.aload_n 0, 1) := by decide +kernel
theorem dX10_add_11 : decode cX10_add 11 = .ok (.getfield 9, 3) := by decide +kernel
theorem dX10_add_14 : decode cX10_add 14 = .ok (.aload_n 0, 1) := by decide +kernel
theorem dX10_add_15 : decode cX10_add 15 = .ok (.getfield 29, 3) := by decide +kernel
theorem dX10_add_18 : decode cX10_add 18 = .ok (.aload_n 0, 1) := by decide +kernel
theorem dX10_add_19 : decode cX10_add 19 = .ok (.getfield 33, 3) := by decide +kernel
theorem dX10_add_22 : decode cX10_add 22 = .ok (.iastore, 1) := by decide +kernel
theorem dX10_add_23 : decode cX10_add 23 = .ok (.aload_n 0, 1) := by decide +kernel
theorem dX10_add_24 : decode cX10_add 24 = .ok (.getfield 13, 3) := by decide +kernel
theorem dX10_add_27 : decode cX10_add 27 = .ok (.aload_n 0, 1) := by decide +kernel
theorem dX10_add_28 : decode cX10_add 28 = .ok (.getfield 29, 3) := by decide +kernel
theorem dX10_add_31 : decode cX10_add 31 = .ok (.iload_n 1, 1) := by decide +kernel
theorem dX10_add_32 : decode cX10_add 32 = .ok (.iastore, 1) := by decide +kernel
theorem dX10_add_33 : decode cX10_add 33 = .ok (.aload_n 0, 1) := by decide +kernel
theorem dX10_add_34 : decode cX10_add 34 = .ok (.getfield 16, 3) := by decide +kernel
theorem dX10_add_37 : decode cX10_add 37 = .ok (.aload_n 0, 1) := by decide +kernel
theorem dX10_add_38 : decode cX10_add 38 = .ok (.getfield 29, 3) := by decide +kernel
theorem dX10_add_41 : decode cX10_add 41 = .ok (.iload_n 2, 1) := by decide +kernel
theorem dX10_add_42 : decode cX10_add 42 = .ok (.iastore, 1) := by decide +kernel
theorem dX10_add_43 : decode cX10_add 43 = .ok (.aload_n 0, 1) := by decide +kernel
theorem dX10_add_44 : decode cX10_add 44 = .ok (.getfield 19, 3) := by decide +kernel
theorem dX10_add_47 : decode cX10_add 47 = .ok (.aload_n 0, 1) := by decide +kernel
theorem dX10_add_48 : decode cX10_add 48 = .ok (.getfield 29, 3) := by decide +kernel
theorem dX10_add_51 : decode cX10_add 51 = .ok (.iload_n 3, 1) := by decide +kernel
theorem dX10_add_52 : decode cX10_add 52 = .ok (.iastore, 1) := by decide +kernel
theorem dX10_add_53 : decode cX10_add 53 = .ok (.aload_n 0, 1) := by decide +kernel
theorem dX10_add_54 : decode cX10_add 54 = .ok (.getfield 22, 3) := by decide +kernel
theorem dX10_add_57 : decode cX10_add 57 = .ok (.aload_n 0, 1) := by decide +kernel
theorem dX10_add_58 : decode cX10_add 58 = .ok (.getfield 29, 3) := by decide +kernel
theorem dX10_add_61 : decode cX10_add 61 = .ok (.iconst 0, 1) := by decide +kernel
theorem dX10_add_62 : decode cX10_add 62 = .ok (.iastore, 1) := by decide +kernel
theorem dX10_add_63 : decode cX10_add 63 = .ok (.aload_n 0, 1) := by decide +kernel
theorem dX10_add_64 : decode cX10_add 64 = .ok (.getfield 25, 3) := by decide +kernel
theorem dX10_add_67 : decode cX10_add 67 = .ok (.aload_n 0, 1) := by decide +kernel
theorem dX10_add_68 : decode cX10_add 68 = .ok (.getfield 29, 3) := by decide +kernel
theorem dX10_add_71 : decode cX10_add 71 = .ok (.iconst 0, 1) := by decide +kernel
theorem dX10_add_72 : decode cX10_add 72 = .ok (.bastore, 1) := by decide +kernel
theorem dX10_add_73 : decode cX10_add 73 = .ok (.aload_n 0, 1) := by decide +kernel
theorem dX10_add_74 : decode cX10_add 74 = .ok (.dup, 1) := by decide +kernel
theorem dX10_add_75 : decode cX10_add 75 = .ok (.getfield 29, 3) := by decide +kernel
theorem dX10_add_78 : decode cX10_add 78 = .ok (.iconst 1, 1) := by decide +kernel
theorem dX10_add_79 : decode cX10_add 79 = .ok (.iadd, 1) := by decide +kernel
theorem dX10_add_80 : decode cX10_add 80 = .ok (.putfield 29, 3) := by decide +kernel
theorem dX10_add_83 : decode cX10_add 83 = .ok (.aload_n 0, 1) := by decide +kernel
theorem dX10_add_84 : decode cX10_add 84 = .ok (.dup, 1) := by decide +kernel
theorem dX10_add_85 : decode cX10_add 85 = .ok (.getfield 33, 3) := by decide +kernel
theorem dX10_add_88 : decode cX10_add 88 = .ok (.iload_n 1, 1) := by decide +kernel
theorem dX10_add_89 : decode cX10_add 89 = .ok (.iadd, 1) := by decide +kernel
theorem dX10_add_90 : decode cX10_add 90 = .ok (.putfield 33, 3) := by decide +kernel
theorem dX10_add_93 : decode cX10_add 93 = .ok (.return_, 1) := by decide +kernel
theorem dX10_lean_0 : decode cX10_lean 0 = .ok (.aload_n 0, 1) := by decide +kernel
theorem dX10_lean_1 : decode cX10_lean 1 = .ok (.iload_n 1, 1) := by decide +kernel
theorem dX10_lean_2 : decode cX10_lean 2 = .ok (.invokevirtual 36, 3) := by decide +kernel
theorem dX10_lean_5 : decode cX10_lean 5 = .ok (.ifCond .eq 17, 3) := by decide +kernel
theorem dX10_lean_8 : decode cX10_lean 8 = .ok (.aload_n 0, 1) := by decide +kernel
theorem dX10_lean_9 : decode cX10_lean 9 = .ok (.getfield 22, 3) := by decide +kernel
theorem dX10_lean_12 : decode cX10_lean 12 = .ok (.iload_n 1, 1) := by decide +kernel
theorem dX10_lean_13 : decode cX10_lean 13 = .ok (.iload_n 2, 1) := by decide +kernel
theorem dX10_lean_14 : decode cX10_lean 14 = .ok (.iastore, 1) := by decide +kernel
theorem dX10_lean_15 : decode cX10_lean 15 = .ok (.aload_n 0, 1) := by decide +kernel
theorem dX10_lean_16 : decode cX10_lean 16 = .ok (.getfield 25, 3) := by decide +kernel
theorem dX10_lean_19 : decode cX10_lean 19 = .ok (.iload_n 1, 1) := by decide +kernel
theorem dX10_lean_20 : decode cX10_lean 20 = .ok (.iconst 1, 1) := by decide +kernel
theorem dX10_lean_21 : decode cX10_lean 21 = .ok (.bastore, 1) := by decide +kernel
theorem dX10_lean_22 : decode cX10_lean 22 = .ok (.return_, 1) := by decide +kernel
theorem dX10_has_0 : decode cX10_has 0 = .ok (.iload_n 1, 1) := by decide +kernel
theorem dX10_has_1 : decode cX10_has 1 = .ok (.ifCond .lt 15, 3) := by decide +kernel
theorem dX10_has_4 : decode cX10_has 4 = .ok (.iload_n 1, 1) := by decide +kernel
theorem dX10_has_5 : decode cX10_has 5 = .ok (.aload_n 0, 1) := by decide +kernel
theorem dX10_has_6 : decode cX10_has 6 = .ok (.getfield 29, 3) := by decide +kernel
theorem dX10_has_9 : decode cX10_has 9 = .ok (.if_icmp .ge 7, 3) := by decide +kernel
theorem dX10_has_12 : decode cX10_has 12 = .ok (.iconst 1, 1) := by decide +kernel
theorem dX10_has_13 : decode cX10_has 13 = .ok (.goto 4, 3) := by decide +kernel
theorem dX10_has_16 : decode cX10_has 16 = .ok (.iconst 0, 1) := by decide +kernel
theorem dX10_has_17 : decode cX10_has 17 = .ok (.ireturn, 1) := by decide +kernel
theorem dX10_leansAt_0 : decode cX10_leansAt 0 = .ok (.aload_n 0, 1) := by decide +kernel
theorem dX10_leansAt_1 : decode cX10_leansAt 1 = .ok (.iload_n 1, 1) := by decide +kernel
theorem dX10_leansAt_2 : decode cX10_leansAt 2 = .ok (.invokevirtual 36, 3) := by decide +kernel
theorem dX10_leansAt_5 : decode cX10_leansAt 5 = .ok (.ifCond .eq 16, 3) := by decide +kernel
theorem dX10_leansAt_8 : decode cX10_leansAt 8 = .ok (.aload_n 0, 1) := by decide +kernel
theorem dX10_leansAt_9 : decode cX10_leansAt 9 = .ok (.getfield 25, 3) := by decide +kernel
theorem dX10_leansAt_12 : decode cX10_leansAt 12 = .ok (.iload_n 1, 1) := by decide +kernel
theorem dX10_leansAt_13 : decode cX10_leansAt 13 = .ok (.baload, 1) := by decide +kernel
theorem dX10_leansAt_14 : decode cX10_leansAt 14 = .ok (.ifCond .eq 7, 3) := by decide +kernel
theorem dX10_leansAt_17 : decode cX10_leansAt 17 = .ok (.iconst 1, 1) := by decide +kernel
theorem dX10_leansAt_18 : decode cX10_leansAt 18 = .ok (.goto 4, 3) := by decide +kernel
theorem dX10_leansAt_21 : decode cX10_leansAt 21 = .ok (.iconst 0, 1) := by decide +kernel
theorem dX10_leansAt_22 : decode cX10_leansAt 22 = .ok (.ireturn, 1) := by decide +kernel
theorem dX10_beginOf_0 : decode cX10_beginOf 0 = .ok (.aload_n 0, 1) := by decide +kernel
theorem dX10_beginOf_1 : decode cX10_beginOf 1 = .ok (.iload_n 1, 1) := by decide +kernel
theorem dX10_beginOf_2 : decode cX10_beginOf 2 = .ok (.invokevirtual 36, 3) := by decide +kernel
theorem dX10_beginOf_5 : decode cX10_beginOf 5 = .ok (.ifCond .eq 12, 3) := by decide +kernel
theorem dX10_beginOf_8 : decode cX10_beginOf 8 = .ok (.aload_n 0, 1) := by decide +kernel
theorem dX10_beginOf_9 : decode cX10_beginOf 9 = .ok (.getfield 9, 3) := by decide +kernel
theorem dX10_beginOf_12 : decode cX10_beginOf 12 = .ok (.iload_n 1, 1) := by decide +kernel
theorem dX10_beginOf_13 : decode cX10_beginOf 13 = .ok (.iaload, 1) := by decide +kernel
theorem dX10_beginOf_14 : decode cX10_beginOf 14 = .ok (.goto 4, 3) := by decide +kernel
theorem dX10_beginOf_17 : decode cX10_beginOf 17 = .ok (.iconst 0, 1) := by decide +kernel
theorem dX10_beginOf_18 : decode cX10_beginOf 18 = .ok (.ireturn, 1) := by decide +kernel
theorem dX10_lengthOf_0 : decode cX10_lengthOf 0 = .ok (.aload_n 0, 1) := by decide +kernel
theorem dX10_lengthOf_1 : decode cX10_lengthOf 1 = .ok (.iload_n 1, 1) := by decide +kernel
theorem dX10_lengthOf_2 : decode cX10_lengthOf 2 = .ok (.invokevirtual 36, 3) := by decide +kernel
theorem dX10_lengthOf_5 : decode cX10_lengthOf 5 = .ok (.ifCond .eq 12, 3) := by decide +kernel
theorem dX10_lengthOf_8 : decode cX10_lengthOf 8 = .ok (.aload_n 0, 1) := by decide +kernel
theorem dX10_lengthOf_9 : decode cX10_lengthOf 9 = .ok (.getfield 13, 3) := by decide +kernel
theorem dX10_lengthOf_12 : decode cX10_lengthOf 12 = .ok (.iload_n 1, 1) := by decide +kernel
theorem dX10_lengthOf_13 : decode cX10_lengthOf 13 = .ok (.iaload, 1) := by decide +kernel
theorem dX10_lengthOf_14 : decode cX10_lengthOf 14 = .ok (.goto 4, 3) := by decide +kernel
theorem dX10_lengthOf_17 : decode cX10_lengthOf 17 = .ok (.iconst 0, 1) := by decide +kernel
theorem dX10_lengthOf_18 : decode cX10_lengthOf 18 = .ok (.ireturn, 1) := by decide +kernel
theorem dX10_lesserHeightOf_0 : decode cX10_lesserHeightOf 0 = .ok (.aload_n 0, 1) := by decide +kernel
theorem dX10_lesserHeightOf_1 : decode cX10_lesserHeightOf 1 = .ok (.iload_n 1, 1) := by decide +kernel
theorem dX10_lesserHeightOf_2 : decode cX10_lesserHeightOf 2 = .ok (.invokevirtual 36, 3) := by decide +kernel
theorem dX10_lesserHeightOf_5 : decode cX10_lesserHeightOf 5 = .ok (.ifCond .eq 21, 3) := by decide +kernel
theorem dX10_lesserHeightOf_8 : decode cX10_lesserHeightOf 8 = .ok (.aload_n 0, 1) := by decide +kernel
theorem dX10_lesserHeightOf_9 : decode cX10_lesserHeightOf 9 = .ok (.getfield 16, 3) := by decide +kernel
theorem dX10_lesserHeightOf_12 : decode cX10_lesserHeightOf 12 = .ok (.iload_n 1, 1) := by decide +kernel
theorem dX10_lesserHeightOf_13 : decode cX10_lesserHeightOf 13 = .ok (.iaload, 1) := by decide +kernel
theorem dX10_lesserHeightOf_14 : decode cX10_lesserHeightOf 14 = .ok (.aload_n 0, 1) := by decide +kernel
theorem dX10_lesserHeightOf_15 : decode cX10_lesserHeightOf 15 = .ok (.getfield 19, 3) := by decide +kernel
theorem dX10_lesserHeightOf_18 : decode cX10_lesserHeightOf 18 = .ok (.iload_n 1, 1) := by decide +kernel
theorem dX10_lesserHeightOf_19 : decode cX10_lesserHeightOf 19 = .ok (.iaload, 1) := by decide +kernel
theorem dX10_lesserHeightOf_20 : decode cX10_lesserHeightOf 20 = .ok (.invokestatic 40, 3) := by decide +kernel
theorem dX10_lesserHeightOf_23 : decode cX10_lesserHeightOf 23 = .ok (.goto 4, 3) := by decide +kernel
theorem dX10_lesserHeightOf_26 : decode cX10_lesserHeightOf 26 = .ok (.iconst 0, 1) := by decide +kernel
theorem dX10_lesserHeightOf_27 : decode cX10_lesserHeightOf 27 = .ok (.ireturn, 1) := by decide +kernel
theorem dX10_rightOf_0 : decode cX10_rightOf 0 = .ok (.iload_n 1, 1) := by decide +kernel
theorem dX10_rightOf_1 : decode cX10_rightOf 1 = .ok (.iconst 1, 1) := by decide +kernel
theorem dX10_rightOf_2 : decode cX10_rightOf 2 = .ok (.iadd, 1) := by decide +kernel
theorem dX10_rightOf_3 : decode cX10_rightOf 3 = .ok (.aload_n 0, 1) := by decide +kernel
theorem dX10_rightOf_4 : decode cX10_rightOf 4 = .ok (.getfield 29, 3) := by decide +kernel
theorem dX10_rightOf_7 : decode cX10_rightOf 7 = .ok (.if_icmp .ge 9, 3) := by decide +kernel
theorem dX10_rightOf_10 : decode cX10_rightOf 10 = .ok (.iload_n 1, 1) := by decide +kernel
theorem dX10_rightOf_11 : decode cX10_rightOf 11 = .ok (.iconst 1, 1) := by decide +kernel
theorem dX10_rightOf_12 : decode cX10_rightOf 12 = .ok (.iadd, 1) := by decide +kernel
theorem dX10_rightOf_13 : decode cX10_rightOf 13 = .ok (.goto 4, 3) := by decide +kernel
theorem dX10_rightOf_16 : decode cX10_rightOf 16 = .ok (.iconst 0, 1) := by decide +kernel
theorem dX10_rightOf_17 : decode cX10_rightOf 17 = .ok (.ireturn, 1) := by decide +kernel
theorem dX10_wallAt_0 : decode cX10_wallAt 0 = .ok (.iconst 0, 1) := by decide +kernel
theorem dX10_wallAt_1 : decode cX10_wallAt 1 = .ok (.istore_n 2, 1) := by decide +kernel
theorem dX10_wallAt_2 : decode cX10_wallAt 2 = .ok (.iconst 1, 1) := by decide +kernel
theorem dX10_wallAt_3 : decode cX10_wallAt 3 = .ok (.istore_n 3, 1) := by decide +kernel
theorem dX10_wallAt_4 : decode cX10_wallAt 4 = .ok (.iload_n 3, 1) := by decide +kernel
theorem dX10_wallAt_5 : decode cX10_wallAt 5 = .ok (.aload_n 0, 1) := by decide +kernel
theorem dX10_wallAt_6 : decode cX10_wallAt 6 = .ok (.getfield 29, 3) := by decide +kernel
theorem dX10_wallAt_9 : decode cX10_wallAt 9 = .ok (.if_icmp .ge 21, 3) := by decide +kernel
theorem dX10_wallAt_12 : decode cX10_wallAt 12 = .ok (.aload_n 0, 1) := by decide +kernel
theorem dX10_wallAt_13 : decode cX10_wallAt 13 = .ok (.getfield 9, 3) := by decide +kernel
theorem dX10_wallAt_16 : decode cX10_wallAt 16 = .ok (.iload_n 3, 1) := by decide +kernel
theorem dX10_wallAt_17 : decode cX10_wallAt 17 = .ok (.iaload, 1) := by decide +kernel
theorem dX10_wallAt_18 : decode cX10_wallAt 18 = .ok (.iload_n 1, 1) := by decide +kernel
theorem dX10_wallAt_19 : decode cX10_wallAt 19 = .ok (.if_icmp .gt 5, 3) := by decide +kernel
theorem dX10_wallAt_22 : decode cX10_wallAt 22 = .ok (.iload_n 3, 1) := by decide +kernel
theorem dX10_wallAt_23 : decode cX10_wallAt 23 = .ok (.istore_n 2, 1) := by decide +kernel
theorem dX10_wallAt_24 : decode cX10_wallAt 24 = .ok (.iinc 3 1, 3) := by decide +kernel
theorem dX10_wallAt_27 : decode cX10_wallAt 27 = .ok (.goto (-23), 3) := by decide +kernel
theorem dX10_wallAt_30 : decode cX10_wallAt 30 = .ok (.iload_n 2, 1) := by decide +kernel
theorem dX10_wallAt_31 : decode cX10_wallAt 31 = .ok (.ireturn, 1) := by decide +kernel
theorem dX10_heightAt_0 : decode cX10_heightAt 0 = .ok (.aload_n 0, 1) := by decide +kernel
theorem dX10_heightAt_1 : decode cX10_heightAt 1 = .ok (.iload_n 1, 1) := by decide +kernel
theorem dX10_heightAt_2 : decode cX10_heightAt 2 = .ok (.invokevirtual 46, 3) := by decide +kernel
theorem dX10_heightAt_5 : decode cX10_heightAt 5 = .ok (.istore_n 2, 1) := by decide +kernel
theorem dX10_heightAt_6 : decode cX10_heightAt 6 = .ok (.aload_n 0, 1) := by decide +kernel
theorem dX10_heightAt_7 : decode cX10_heightAt 7 = .ok (.iload_n 2, 1) := by decide +kernel
theorem dX10_heightAt_8 : decode cX10_heightAt 8 = .ok (.iload_n 1, 1) := by decide +kernel
theorem dX10_heightAt_9 : decode cX10_heightAt 9 = .ok (.aload_n 0, 1) := by decide +kernel
theorem dX10_heightAt_10 : decode cX10_heightAt 10 = .ok (.iload_n 2, 1) := by decide +kernel
theorem dX10_heightAt_11 : decode cX10_heightAt 11 = .ok (.invokevirtual 50, 3) := by decide +kernel
theorem dX10_heightAt_14 : decode cX10_heightAt 14 = .ok (.isub, 1) := by decide +kernel
theorem dX10_heightAt_15 : decode cX10_heightAt 15 = .ok (.invokevirtual 53, 3) := by decide +kernel
theorem dX10_heightAt_18 : decode cX10_heightAt 18 = .ok (.ireturn, 1) := by decide +kernel
theorem dX10_heightOn_0 : decode cX10_heightOn 0 = .ok (.aload_n 0, 1) := by decide +kernel
theorem dX10_heightOn_1 : decode cX10_heightOn 1 = .ok (.iload_n 1, 1) := by decide +kernel
theorem dX10_heightOn_2 : decode cX10_heightOn 2 = .ok (.invokevirtual 36, 3) := by decide +kernel
theorem dX10_heightOn_5 : decode cX10_heightOn 5 = .ok (.ifCond .eq 12, 3) := by decide +kernel
theorem dX10_heightOn_8 : decode cX10_heightOn 8 = .ok (.aload_n 0, 1) := by decide +kernel
theorem dX10_heightOn_9 : decode cX10_heightOn 9 = .ok (.getfield 13, 3) := by decide +kernel
theorem dX10_heightOn_12 : decode cX10_heightOn 12 = .ok (.iload_n 1, 1) := by decide +kernel
theorem dX10_heightOn_13 : decode cX10_heightOn 13 = .ok (.iaload, 1) := by decide +kernel
theorem dX10_heightOn_14 : decode cX10_heightOn 14 = .ok (.ifCond .gt 5, 3) := by decide +kernel
theorem dX10_heightOn_17 : decode cX10_heightOn 17 = .ok (.iconst 0, 1) := by decide +kernel
theorem dX10_heightOn_18 : decode cX10_heightOn 18 = .ok (.ireturn, 1) := by decide +kernel
theorem dX10_heightOn_19 : decode cX10_heightOn 19 = .ok (.aload_n 0, 1) := by decide +kernel
theorem dX10_heightOn_20 : decode cX10_heightOn 20 = .ok (.getfield 16, 3) := by decide +kernel
theorem dX10_heightOn_23 : decode cX10_heightOn 23 = .ok (.iload_n 1, 1) := by decide +kernel
theorem dX10_heightOn_24 : decode cX10_heightOn 24 = .ok (.iaload, 1) := by decide +kernel
theorem dX10_heightOn_25 : decode cX10_heightOn 25 = .ok (.aload_n 0, 1) := by decide +kernel
theorem dX10_heightOn_26 : decode cX10_heightOn 26 = .ok (.getfield 19, 3) := by decide +kernel
theorem dX10_heightOn_29 : decode cX10_heightOn 29 = .ok (.iload_n 1, 1) := by decide +kernel
theorem dX10_heightOn_30 : decode cX10_heightOn 30 = .ok (.iaload, 1) := by decide +kernel
theorem dX10_heightOn_31 : decode cX10_heightOn 31 = .ok (.aload_n 0, 1) := by decide +kernel
theorem dX10_heightOn_32 : decode cX10_heightOn 32 = .ok (.getfield 16, 3) := by decide +kernel
theorem dX10_heightOn_35 : decode cX10_heightOn 35 = .ok (.iload_n 1, 1) := by decide +kernel
theorem dX10_heightOn_36 : decode cX10_heightOn 36 = .ok (.iaload, 1) := by decide +kernel
theorem dX10_heightOn_37 : decode cX10_heightOn 37 = .ok (.isub, 1) := by decide +kernel
theorem dX10_heightOn_38 : decode cX10_heightOn 38 = .ok (.iload_n 2, 1) := by decide +kernel
theorem dX10_heightOn_39 : decode cX10_heightOn 39 = .ok (.imul, 1) := by decide +kernel
theorem dX10_heightOn_40 : decode cX10_heightOn 40 = .ok (.aload_n 0, 1) := by decide +kernel
theorem dX10_heightOn_41 : decode cX10_heightOn 41 = .ok (.getfield 13, 3) := by decide +kernel
theorem dX10_heightOn_44 : decode cX10_heightOn 44 = .ok (.iload_n 1, 1) := by decide +kernel
theorem dX10_heightOn_45 : decode cX10_heightOn 45 = .ok (.iaload, 1) := by decide +kernel
theorem dX10_heightOn_46 : decode cX10_heightOn 46 = .ok (.invokestatic 56, 3) := by decide +kernel
theorem dX10_heightOn_49 : decode cX10_heightOn 49 = .ok (.iadd, 1) := by decide +kernel
theorem dX10_heightOn_50 : decode cX10_heightOn 50 = .ok (.ireturn, 1) := by decide +kernel
theorem dX10_tallestEndBetween_0 : decode cX10_tallestEndBetween 0 = .ok (.iconst 0, 1) := by decide +kernel
theorem dX10_tallestEndBetween_1 : decode cX10_tallestEndBetween 1 = .ok (.istore_n 3, 1) := by decide +kernel
theorem dX10_tallestEndBetween_2 : decode cX10_tallestEndBetween 2 = .ok (.aload_n 0, 1) := by decide +kernel
theorem dX10_tallestEndBetween_3 : decode cX10_tallestEndBetween 3 = .ok (.getfield 29, 3) := by decide +kernel
theorem dX10_tallestEndBetween_6 : decode cX10_tallestEndBetween 6 = .ok (.iconst 1, 1) := by decide +kernel
theorem dX10_tallestEndBetween_7 : decode cX10_tallestEndBetween 7 = .ok (.isub, 1) := by decide +kernel
theorem dX10_tallestEndBetween_8 : decode cX10_tallestEndBetween 8 = .ok (.istore 4, 2) := by decide +kernel
theorem dX10_tallestEndBetween_10 : decode cX10_tallestEndBetween 10 = .ok (.iconst 0, 1) := by decide +kernel
theorem dX10_tallestEndBetween_11 : decode cX10_tallestEndBetween 11 = .ok (.istore 5, 2) := by decide +kernel
theorem dX10_tallestEndBetween_13 : decode cX10_tallestEndBetween 13 = .ok (.iload 5, 2) := by decide +kernel
theorem dX10_tallestEndBetween_15 : decode cX10_tallestEndBetween 15 = .ok (.aload_n 0, 1) := by decide +kernel
theorem dX10_tallestEndBetween_16 : decode cX10_tallestEndBetween 16 = .ok (.getfield 29, 3) := by decide +kernel
theorem dX10_tallestEndBetween_19 : decode cX10_tallestEndBetween 19 = .ok (.if_icmp .ge 78, 3) := by decide +kernel
theorem dX10_tallestEndBetween_22 : decode cX10_tallestEndBetween 22 = .ok (.aload_n 0, 1) := by decide +kernel
theorem dX10_tallestEndBetween_23 : decode cX10_tallestEndBetween 23 = .ok (.getfield 9, 3) := by decide +kernel
theorem dX10_tallestEndBetween_26 : decode cX10_tallestEndBetween 26 = .ok (.iload 5, 2) := by decide +kernel
theorem dX10_tallestEndBetween_28 : decode cX10_tallestEndBetween 28 = .ok (.iaload, 1) := by decide +kernel
theorem dX10_tallestEndBetween_29 : decode cX10_tallestEndBetween 29 = .ok (.istore 6, 2) := by decide +kernel
theorem dX10_tallestEndBetween_31 : decode cX10_tallestEndBetween 31 = .ok (.iload 6, 2) := by decide +kernel
theorem dX10_tallestEndBetween_33 : decode cX10_tallestEndBetween 33 = .ok (.iload_n 1, 1) := by decide +kernel
theorem dX10_tallestEndBetween_34 : decode cX10_tallestEndBetween 34 = .ok (.if_icmp .le 9, 3) := by decide +kernel
theorem dX10_tallestEndBetween_37 : decode cX10_tallestEndBetween 37 = .ok (.iload 6, 2) := by decide +kernel
theorem dX10_tallestEndBetween_39 : decode cX10_tallestEndBetween 39 = .ok (.iload_n 2, 1) := by decide +kernel
theorem dX10_tallestEndBetween_40 : decode cX10_tallestEndBetween 40 = .ok (.if_icmp .lt 25, 3) := by decide +kernel
theorem dX10_tallestEndBetween_43 : decode cX10_tallestEndBetween 43 = .ok (.iload 6, 2) := by decide +kernel
theorem dX10_tallestEndBetween_45 : decode cX10_tallestEndBetween 45 = .ok (.aload_n 0, 1) := by decide +kernel
theorem dX10_tallestEndBetween_46 : decode cX10_tallestEndBetween 46 = .ok (.getfield 33, 3) := by decide +kernel
theorem dX10_tallestEndBetween_49 : decode cX10_tallestEndBetween 49 = .ok (.iadd, 1) := by decide +kernel
theorem dX10_tallestEndBetween_50 : decode cX10_tallestEndBetween 50 = .ok (.iload_n 1, 1) := by decide +kernel
theorem dX10_tallestEndBetween_51 : decode cX10_tallestEndBetween 51 = .ok (.if_icmp .le 36, 3) := by decide +kernel
theorem dX10_tallestEndBetween_54 : decode cX10_tallestEndBetween 54 = .ok (.iload 6, 2) := by decide +kernel
theorem dX10_tallestEndBetween_56 : decode cX10_tallestEndBetween 56 = .ok (.aload_n 0, 1) := by decide +kernel
theorem dX10_tallestEndBetween_57 : decode cX10_tallestEndBetween 57 = .ok (.getfield 33, 3) := by decide +kernel
theorem dX10_tallestEndBetween_60 : decode cX10_tallestEndBetween 60 = .ok (.iadd, 1) := by decide +kernel
