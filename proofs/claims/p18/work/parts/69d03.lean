theorem dX8_leastEndsFor_39 : decode cX8_leastEndsFor 39 = .ok (.istore 5, 2) := by decide +kernel
theorem dX8_leastEndsFor_41 : decode cX8_leastEndsFor 41 = .ok (.iload 5, 2) := by decide +kernel
theorem dX8_leastEndsFor_43 : decode cX8_leastEndsFor 43 = .ok (.ifCond .ne 5, 3) := by decide +kernel
theorem dX8_leastEndsFor_46 : decode cX8_leastEndsFor 46 = .ok (.iconst 0, 1) := by decide +kernel
theorem dX8_leastEndsFor_47 : decode cX8_leastEndsFor 47 = .ok (.ireturn, 1) := by decide +kernel
theorem dX8_leastEndsFor_48 : decode cX8_leastEndsFor 48 = .ok (.aload_n 0, 1) := by decide +kernel
theorem dX8_leastEndsFor_49 : decode cX8_leastEndsFor 49 = .ok (.aload_n 1, 1) := by decide +kernel
theorem dX8_leastEndsFor_50 : decode cX8_leastEndsFor 50 = .ok (.iload 4, 2) := by decide +kernel
theorem dX8_leastEndsFor_52 : decode cX8_leastEndsFor 52 = .ok (.iload_n 3, 1) := by decide +kernel
theorem dX8_leastEndsFor_53 : decode cX8_leastEndsFor 53 = .ok (.invokevirtual 49, 3) := by decide +kernel
theorem dX8_leastEndsFor_56 : decode cX8_leastEndsFor 56 = .ok (.istore 6, 2) := by decide +kernel
theorem dX8_leastEndsFor_58 : decode cX8_leastEndsFor 58 = .ok (.iload 5, 2) := by decide +kernel
theorem dX8_leastEndsFor_60 : decode cX8_leastEndsFor 60 = .ok (.iconst 1, 1) := by decide +kernel
theorem dX8_leastEndsFor_61 : decode cX8_leastEndsFor 61 = .ok (.if_icmp .ne 12, 3) := by decide +kernel
theorem dX8_leastEndsFor_64 : decode cX8_leastEndsFor 64 = .ok (.aload_n 0, 1) := by decide +kernel
theorem dX8_leastEndsFor_65 : decode cX8_leastEndsFor 65 = .ok (.iload 6, 2) := by decide +kernel
theorem dX8_leastEndsFor_67 : decode cX8_leastEndsFor 67 = .ok (.invokevirtual 53, 3) := by decide +kernel
theorem dX8_leastEndsFor_70 : decode cX8_leastEndsFor 70 = .ok (.goto 19, 3) := by decide +kernel
theorem dX8_leastEndsFor_73 : decode cX8_leastEndsFor 73 = .ok (.aload_n 0, 1) := by decide +kernel
theorem dX8_leastEndsFor_74 : decode cX8_leastEndsFor 74 = .ok (.iload 6, 2) := by decide +kernel
theorem dX8_leastEndsFor_76 : decode cX8_leastEndsFor 76 = .ok (.aload_n 0, 1) := by decide +kernel
theorem dX8_leastEndsFor_77 : decode cX8_leastEndsFor 77 = .ok (.aload_n 1, 1) := by decide +kernel
theorem dX8_leastEndsFor_78 : decode cX8_leastEndsFor 78 = .ok (.iload 4, 2) := by decide +kernel
theorem dX8_leastEndsFor_80 : decode cX8_leastEndsFor 80 = .ok (.iconst 1, 1) := by decide +kernel
theorem dX8_leastEndsFor_81 : decode cX8_leastEndsFor 81 = .ok (.iadd, 1) := by decide +kernel
theorem dX8_leastEndsFor_82 : decode cX8_leastEndsFor 82 = .ok (.iload_n 3, 1) := by decide +kernel
theorem dX8_leastEndsFor_83 : decode cX8_leastEndsFor 83 = .ok (.invokevirtual 49, 3) := by decide +kernel
theorem dX8_leastEndsFor_86 : decode cX8_leastEndsFor 86 = .ok (.invokevirtual 57, 3) := by decide +kernel
theorem dX8_leastEndsFor_89 : decode cX8_leastEndsFor 89 = .ok (.ireturn, 1) := by decide +kernel
theorem dX8_leastOne_0 : decode cX8_leastOne 0 = .ok (.iload_n 1, 1) := by decide +kernel
theorem dX8_leastOne_1 : decode cX8_leastOne 1 = .ok (.ifCond .ne 7, 3) := by decide +kernel
theorem dX8_leastOne_4 : decode cX8_leastOne 4 = .ok (.iconst (-1), 1) := by decide +kernel
theorem dX8_leastOne_5 : decode cX8_leastOne 5 = .ok (.goto 7, 3) := by decide +kernel
theorem dX8_leastOne_8 : decode cX8_leastOne 8 = .ok (.iload_n 1, 1) := by decide +kernel
theorem dX8_leastOne_9 : decode cX8_leastOne 9 = .ok (.iload_n 1, 1) := by decide +kernel
theorem dX8_leastOne_10 : decode cX8_leastOne 10 = .ok (.ineg, 1) := by decide +kernel
theorem dX8_leastOne_11 : decode cX8_leastOne 11 = .ok (.iand, 1) := by decide +kernel
theorem dX8_leastOne_12 : decode cX8_leastOne 12 = .ok (.ireturn, 1) := by decide +kernel
theorem dX8_leastPair_0 : decode cX8_leastPair 0 = .ok (.iconst (-1), 1) := by decide +kernel
theorem dX8_leastPair_1 : decode cX8_leastPair 1 = .ok (.istore_n 3, 1) := by decide +kernel
theorem dX8_leastPair_2 : decode cX8_leastPair 2 = .ok (.iconst 0, 1) := by decide +kernel
theorem dX8_leastPair_3 : decode cX8_leastPair 3 = .ok (.istore 4, 2) := by decide +kernel
theorem dX8_leastPair_5 : decode cX8_leastPair 5 = .ok (.iload 4, 2) := by decide +kernel
theorem dX8_leastPair_7 : decode cX8_leastPair 7 = .ok (.aload_n 0, 1) := by decide +kernel
theorem dX8_leastPair_8 : decode cX8_leastPair 8 = .ok (.getfield 33, 3) := by decide +kernel
theorem dX8_leastPair_11 : decode cX8_leastPair 11 = .ok (.if_icmp .ge 60, 3) := by decide +kernel
theorem dX8_leastPair_14 : decode cX8_leastPair 14 = .ok (.iload_n 1, 1) := by decide +kernel
theorem dX8_leastPair_15 : decode cX8_leastPair 15 = .ok (.iconst 1, 1) := by decide +kernel
theorem dX8_leastPair_16 : decode cX8_leastPair 16 = .ok (.iload 4, 2) := by decide +kernel
theorem dX8_leastPair_18 : decode cX8_leastPair 18 = .ok (.ishl, 1) := by decide +kernel
theorem dX8_leastPair_19 : decode cX8_leastPair 19 = .ok (.iand, 1) := by decide +kernel
theorem dX8_leastPair_20 : decode cX8_leastPair 20 = .ok (.istore 5, 2) := by decide +kernel
theorem dX8_leastPair_22 : decode cX8_leastPair 22 = .ok (.aload_n 0, 1) := by decide +kernel
theorem dX8_leastPair_23 : decode cX8_leastPair 23 = .ok (.iload_n 2, 1) := by decide +kernel
theorem dX8_leastPair_24 : decode cX8_leastPair 24 = .ok (.iload 5, 2) := by decide +kernel
theorem dX8_leastPair_26 : decode cX8_leastPair 26 = .ok (.iconst (-1), 1) := by decide +kernel
theorem dX8_leastPair_27 : decode cX8_leastPair 27 = .ok (.ixor, 1) := by decide +kernel
theorem dX8_leastPair_28 : decode cX8_leastPair 28 = .ok (.iand, 1) := by decide +kernel
theorem dX8_leastPair_29 : decode cX8_leastPair 29 = .ok (.invokevirtual 53, 3) := by decide +kernel
theorem dX8_leastPair_32 : decode cX8_leastPair 32 = .ok (.istore 6, 2) := by decide +kernel
theorem dX8_leastPair_34 : decode cX8_leastPair 34 = .ok (.iload 5, 2) := by decide +kernel
theorem dX8_leastPair_36 : decode cX8_leastPair 36 = .ok (.ifCond .eq 29, 3) := by decide +kernel
theorem dX8_leastPair_39 : decode cX8_leastPair 39 = .ok (.iload 6, 2) := by decide +kernel
theorem dX8_leastPair_41 : decode cX8_leastPair 41 = .ok (.iconst (-1), 1) := by decide +kernel
theorem dX8_leastPair_42 : decode cX8_leastPair 42 = .ok (.if_icmp .eq 23, 3) := by decide +kernel
theorem dX8_leastPair_45 : decode cX8_leastPair 45 = .ok (.iload_n 3, 1) := by decide +kernel
theorem dX8_leastPair_46 : decode cX8_leastPair 46 = .ok (.iconst (-1), 1) := by decide +kernel
theorem dX8_leastPair_47 : decode cX8_leastPair 47 = .ok (.if_icmp .eq 12, 3) := by decide +kernel
theorem dX8_leastPair_50 : decode cX8_leastPair 50 = .ok (.iload 5, 2) := by decide +kernel
theorem dX8_leastPair_52 : decode cX8_leastPair 52 = .ok (.iload 6, 2) := by decide +kernel
theorem dX8_leastPair_54 : decode cX8_leastPair 54 = .ok (.ior, 1) := by decide +kernel
theorem dX8_leastPair_55 : decode cX8_leastPair 55 = .ok (.iload_n 3, 1) := by decide +kernel
theorem dX8_leastPair_56 : decode cX8_leastPair 56 = .ok (.if_icmp .ge 9, 3) := by decide +kernel
theorem dX8_leastPair_59 : decode cX8_leastPair 59 = .ok (.iload 5, 2) := by decide +kernel
theorem dX8_leastPair_61 : decode cX8_leastPair 61 = .ok (.iload 6, 2) := by decide +kernel
theorem dX8_leastPair_63 : decode cX8_leastPair 63 = .ok (.ior, 1) := by decide +kernel
theorem dX8_leastPair_64 : decode cX8_leastPair 64 = .ok (.istore_n 3, 1) := by decide +kernel
theorem dX8_leastPair_65 : decode cX8_leastPair 65 = .ok (.iinc 4 1, 3) := by decide +kernel
theorem dX8_leastPair_68 : decode cX8_leastPair 68 = .ok (.goto (-63), 3) := by decide +kernel
theorem dX8_leastPair_71 : decode cX8_leastPair 71 = .ok (.iload_n 3, 1) := by decide +kernel
theorem dX8_leastPair_72 : decode cX8_leastPair 72 = .ok (.ireturn, 1) := by decide +kernel
theorem dX8_endsFor_0 : decode cX8_endsFor 0 = .ok (.iconst 0, 1) := by decide +kernel
theorem dX8_endsFor_1 : decode cX8_endsFor 1 = .ok (.istore 4, 2) := by decide +kernel
theorem dX8_endsFor_3 : decode cX8_endsFor 3 = .ok (.iconst 0, 1) := by decide +kernel
theorem dX8_endsFor_4 : decode cX8_endsFor 4 = .ok (.istore 5, 2) := by decide +kernel
theorem dX8_endsFor_6 : decode cX8_endsFor 6 = .ok (.iload 5, 2) := by decide +kernel
theorem dX8_endsFor_8 : decode cX8_endsFor 8 = .ok (.aload_n 0, 1) := by decide +kernel
theorem dX8_endsFor_9 : decode cX8_endsFor 9 = .ok (.getfield 33, 3) := by decide +kernel
theorem dX8_endsFor_12 : decode cX8_endsFor 12 = .ok (.if_icmp .ge 51, 3) := by decide +kernel
theorem dX8_endsFor_15 : decode cX8_endsFor 15 = .ok (.aload_n 0, 1) := by decide +kernel
theorem dX8_endsFor_16 : decode cX8_endsFor 16 = .ok (.getfield 24, 3) := by decide +kernel
theorem dX8_endsFor_19 : decode cX8_endsFor 19 = .ok (.iload 5, 2) := by decide +kernel
theorem dX8_endsFor_21 : decode cX8_endsFor 21 = .ok (.iaload, 1) := by decide +kernel
theorem dX8_endsFor_22 : decode cX8_endsFor 22 = .ok (.iload_n 3, 1) := by decide +kernel
theorem dX8_endsFor_23 : decode cX8_endsFor 23 = .ok (.if_icmp .ne 34, 3) := by decide +kernel
theorem dX8_endsFor_26 : decode cX8_endsFor 26 = .ok (.aload_n 1, 1) := by decide +kernel
theorem dX8_endsFor_27 : decode cX8_endsFor 27 = .ok (.iload_n 2, 1) := by decide +kernel
theorem dX8_endsFor_28 : decode cX8_endsFor 28 = .ok (.aload_n 0, 1) := by decide +kernel
theorem dX8_endsFor_29 : decode cX8_endsFor 29 = .ok (.getfield 27, 3) := by decide +kernel
theorem dX8_endsFor_32 : decode cX8_endsFor 32 = .ok (.iload 5, 2) := by decide +kernel
theorem dX8_endsFor_34 : decode cX8_endsFor 34 = .ok (.iaload, 1) := by decide +kernel
theorem dX8_endsFor_35 : decode cX8_endsFor 35 = .ok (.aload_n 0, 1) := by decide +kernel
theorem dX8_endsFor_36 : decode cX8_endsFor 36 = .ok (.getfield 30, 3) := by decide +kernel
theorem dX8_endsFor_39 : decode cX8_endsFor 39 = .ok (.iload 5, 2) := by decide +kernel
theorem dX8_endsFor_41 : decode cX8_endsFor 41 = .ok (.iaload, 1) := by decide +kernel
theorem dX8_endsFor_42 : decode cX8_endsFor 42 = .ok (.invokevirtual 61, 3) := by decide +kernel
theorem dX8_endsFor_45 : decode cX8_endsFor 45 = .ok (.ifCond .eq 12, 3) := by decide +kernel
theorem dX8_endsFor_48 : decode cX8_endsFor 48 = .ok (.iload 4, 2) := by decide +kernel
theorem dX8_endsFor_50 : decode cX8_endsFor 50 = .ok (.iconst 1, 1) := by decide +kernel
theorem dX8_endsFor_51 : decode cX8_endsFor 51 = .ok (.iload 5, 2) := by decide +kernel
theorem dX8_endsFor_53 : decode cX8_endsFor 53 = .ok (.ishl, 1) := by decide +kernel
theorem dX8_endsFor_54 : decode cX8_endsFor 54 = .ok (.ior, 1) := by decide +kernel
theorem dX8_endsFor_55 : decode cX8_endsFor 55 = .ok (.istore 4, 2) := by decide +kernel
theorem dX8_endsFor_57 : decode cX8_endsFor 57 = .ok (.iinc 5 1, 3) := by decide +kernel
theorem dX8_endsFor_60 : decode cX8_endsFor 60 = .ok (.goto (-54), 3) := by decide +kernel
theorem dX8_endsFor_63 : decode cX8_endsFor 63 = .ok (.iload 4, 2) := by decide +kernel
theorem dX8_endsFor_65 : decode cX8_endsFor 65 = .ok (.ireturn, 1) := by decide +kernel
