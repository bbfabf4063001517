theorem dX2_addPiece_59 : decode cX2_addPiece 59 = .ok (.imul, 1) := by decide +kernel
theorem dX2_addPiece_60 : decode cX2_addPiece 60 = .ok (.iadd, 1) := by decide +kernel
theorem dX2_addPiece_61 : decode cX2_addPiece 61 = .ok (.iastore, 1) := by decide +kernel
theorem dX2_addPiece_62 : decode cX2_addPiece 62 = .ok (.aload_n 0, 1) := by decide +kernel
theorem dX2_addPiece_63 : decode cX2_addPiece 63 = .ok (.getfield 30, 3) := by decide +kernel
theorem dX2_addPiece_66 : decode cX2_addPiece 66 = .ok (.aload_n 0, 1) := by decide +kernel
theorem dX2_addPiece_67 : decode cX2_addPiece 67 = .ok (.getfield 83, 3) := by decide +kernel
theorem dX2_addPiece_70 : decode cX2_addPiece 70 = .ok (.aload_n 0, 1) := by decide +kernel
theorem dX2_addPiece_71 : decode cX2_addPiece 71 = .ok (.getfield 43, 3) := by decide +kernel
theorem dX2_addPiece_74 : decode cX2_addPiece 74 = .ok (.iload_n 2, 1) := by decide +kernel
theorem dX2_addPiece_75 : decode cX2_addPiece 75 = .ok (.iload_n 3, 1) := by decide +kernel
theorem dX2_addPiece_76 : decode cX2_addPiece 76 = .ok (.iadd, 1) := by decide +kernel
theorem dX2_addPiece_77 : decode cX2_addPiece 77 = .ok (.aload_n 0, 1) := by decide +kernel
theorem dX2_addPiece_78 : decode cX2_addPiece 78 = .ok (.getfield 54, 3) := by decide +kernel
theorem dX2_addPiece_81 : decode cX2_addPiece 81 = .ok (.isub, 1) := by decide +kernel
theorem dX2_addPiece_82 : decode cX2_addPiece 82 = .ok (.invokevirtual 139, 3) := by decide +kernel
theorem dX2_addPiece_85 : decode cX2_addPiece 85 = .ok (.iastore, 1) := by decide +kernel
theorem dX2_addPiece_86 : decode cX2_addPiece 86 = .ok (.aload_n 0, 1) := by decide +kernel
theorem dX2_addPiece_87 : decode cX2_addPiece 87 = .ok (.dup, 1) := by decide +kernel
theorem dX2_addPiece_88 : decode cX2_addPiece 88 = .ok (.getfield 83, 3) := by decide +kernel
theorem dX2_addPiece_91 : decode cX2_addPiece 91 = .ok (.iconst 1, 1) := by decide +kernel
theorem dX2_addPiece_92 : decode cX2_addPiece 92 = .ok (.iadd, 1) := by decide +kernel
theorem dX2_addPiece_93 : decode cX2_addPiece 93 = .ok (.putfield 83, 3) := by decide +kernel
theorem dX2_addPiece_96 : decode cX2_addPiece 96 = .ok (.return_, 1) := by decide +kernel
theorem dX2_longTogether_0 : decode cX2_longTogether 0 = .ok (.iconst 0, 1) := by decide +kernel
theorem dX2_longTogether_1 : decode cX2_longTogether 1 = .ok (.istore_n 3, 1) := by decide +kernel
theorem dX2_longTogether_2 : decode cX2_longTogether 2 = .ok (.iconst 0, 1) := by decide +kernel
theorem dX2_longTogether_3 : decode cX2_longTogether 3 = .ok (.iload_n 1, 1) := by decide +kernel
theorem dX2_longTogether_4 : decode cX2_longTogether 4 = .ok (.invokestatic 112, 3) := by decide +kernel
theorem dX2_longTogether_7 : decode cX2_longTogether 7 = .ok (.istore 4, 2) := by decide +kernel
theorem dX2_longTogether_9 : decode cX2_longTogether 9 = .ok (.iload 4, 2) := by decide +kernel
theorem dX2_longTogether_11 : decode cX2_longTogether 11 = .ok (.iload_n 2, 1) := by decide +kernel
theorem dX2_longTogether_12 : decode cX2_longTogether 12 = .ok (.if_icmp .ge 28, 3) := by decide +kernel
theorem dX2_longTogether_15 : decode cX2_longTogether 15 = .ok (.iload 4, 2) := by decide +kernel
theorem dX2_longTogether_17 : decode cX2_longTogether 17 = .ok (.aload_n 0, 1) := by decide +kernel
theorem dX2_longTogether_18 : decode cX2_longTogether 18 = .ok (.getfield 83, 3) := by decide +kernel
theorem dX2_longTogether_21 : decode cX2_longTogether 21 = .ok (.if_icmp .ge 19, 3) := by decide +kernel
theorem dX2_longTogether_24 : decode cX2_longTogether 24 = .ok (.iload_n 3, 1) := by decide +kernel
theorem dX2_longTogether_25 : decode cX2_longTogether 25 = .ok (.aload_n 0, 1) := by decide +kernel
theorem dX2_longTogether_26 : decode cX2_longTogether 26 = .ok (.getfield 27, 3) := by decide +kernel
theorem dX2_longTogether_29 : decode cX2_longTogether 29 = .ok (.iload 4, 2) := by decide +kernel
theorem dX2_longTogether_31 : decode cX2_longTogether 31 = .ok (.iaload, 1) := by decide +kernel
theorem dX2_longTogether_32 : decode cX2_longTogether 32 = .ok (.iadd, 1) := by decide +kernel
theorem dX2_longTogether_33 : decode cX2_longTogether 33 = .ok (.istore_n 3, 1) := by decide +kernel
theorem dX2_longTogether_34 : decode cX2_longTogether 34 = .ok (.iinc 4 1, 3) := by decide +kernel
theorem dX2_longTogether_37 : decode cX2_longTogether 37 = .ok (.goto (-28), 3) := by decide +kernel
theorem dX2_longTogether_40 : decode cX2_longTogether 40 = .ok (.iload_n 3, 1) := by decide +kernel
theorem dX2_longTogether_41 : decode cX2_longTogether 41 = .ok (.ireturn, 1) := by decide +kernel
theorem dX2_cutFrom_0 : decode cX2_cutFrom 0 = .ok (.iconst 0, 1) := by decide +kernel
theorem dX2_cutFrom_1 : decode cX2_cutFrom 1 = .ok (.istore_n 3, 1) := by decide +kernel
theorem dX2_cutFrom_2 : decode cX2_cutFrom 2 = .ok (.iload_n 3, 1) := by decide +kernel
theorem dX2_cutFrom_3 : decode cX2_cutFrom 3 = .ok (.aload_n 0, 1) := by decide +kernel
theorem dX2_cutFrom_4 : decode cX2_cutFrom 4 = .ok (.getfield 83, 3) := by decide +kernel
theorem dX2_cutFrom_7 : decode cX2_cutFrom 7 = .ok (.if_icmp .ge 82, 3) := by decide +kernel
theorem dX2_cutFrom_10 : decode cX2_cutFrom 10 = .ok (.iload_n 2, 1) := by decide +kernel
theorem dX2_cutFrom_11 : decode cX2_cutFrom 11 = .ok (.iconst (-1), 1) := by decide +kernel
theorem dX2_cutFrom_12 : decode cX2_cutFrom 12 = .ok (.if_icmp .eq 30, 3) := by decide +kernel
theorem dX2_cutFrom_15 : decode cX2_cutFrom 15 = .ok (.aload_n 0, 1) := by decide +kernel
theorem dX2_cutFrom_16 : decode cX2_cutFrom 16 = .ok (.getfield 39, 3) := by decide +kernel
theorem dX2_cutFrom_19 : decode cX2_cutFrom 19 = .ok (.getfield 57, 3) := by decide +kernel
theorem dX2_cutFrom_22 : decode cX2_cutFrom 22 = .ok (.aload_n 0, 1) := by decide +kernel
theorem dX2_cutFrom_23 : decode cX2_cutFrom 23 = .ok (.aload_n 0, 1) := by decide +kernel
theorem dX2_cutFrom_24 : decode cX2_cutFrom 24 = .ok (.getfield 18, 3) := by decide +kernel
theorem dX2_cutFrom_27 : decode cX2_cutFrom 27 = .ok (.iload_n 3, 1) := by decide +kernel
theorem dX2_cutFrom_28 : decode cX2_cutFrom 28 = .ok (.iaload, 1) := by decide +kernel
theorem dX2_cutFrom_29 : decode cX2_cutFrom 29 = .ok (.invokevirtual 99, 3) := by decide +kernel
theorem dX2_cutFrom_32 : decode cX2_cutFrom 32 = .ok (.invokevirtual 105, 3) := by decide +kernel
theorem dX2_cutFrom_35 : decode cX2_cutFrom 35 = .ok (.iload_n 2, 1) := by decide +kernel
theorem dX2_cutFrom_36 : decode cX2_cutFrom 36 = .ok (.if_icmp .eq 6, 3) := by decide +kernel
theorem dX2_cutFrom_39 : decode cX2_cutFrom 39 = .ok (.goto 44, 3) := by decide +kernel
theorem dX2_cutFrom_42 : decode cX2_cutFrom 42 = .ok (.aload_n 1, 1) := by decide +kernel
theorem dX2_cutFrom_43 : decode cX2_cutFrom 43 = .ok (.aload_n 0, 1) := by decide +kernel
theorem dX2_cutFrom_44 : decode cX2_cutFrom 44 = .ok (.getfield 27, 3) := by decide +kernel
theorem dX2_cutFrom_47 : decode cX2_cutFrom 47 = .ok (.iload_n 3, 1) := by decide +kernel
theorem dX2_cutFrom_48 : decode cX2_cutFrom 48 = .ok (.iaload, 1) := by decide +kernel
theorem dX2_cutFrom_49 : decode cX2_cutFrom 49 = .ok (.aload_n 0, 1) := by decide +kernel
theorem dX2_cutFrom_50 : decode cX2_cutFrom 50 = .ok (.getfield 30, 3) := by decide +kernel
theorem dX2_cutFrom_53 : decode cX2_cutFrom 53 = .ok (.iload_n 3, 1) := by decide +kernel
theorem dX2_cutFrom_54 : decode cX2_cutFrom 54 = .ok (.iaload, 1) := by decide +kernel
theorem dX2_cutFrom_55 : decode cX2_cutFrom 55 = .ok (.invokevirtual 142, 3) := by decide +kernel
theorem dX2_cutFrom_58 : decode cX2_cutFrom 58 = .ok (.ifCond .ne 5, 3) := by decide +kernel
theorem dX2_cutFrom_61 : decode cX2_cutFrom 61 = .ok (.iconst 0, 1) := by decide +kernel
theorem dX2_cutFrom_62 : decode cX2_cutFrom 62 = .ok (.ireturn, 1) := by decide +kernel
theorem dX2_cutFrom_63 : decode cX2_cutFrom 63 = .ok (.aload_n 0, 1) := by decide +kernel
theorem dX2_cutFrom_64 : decode cX2_cutFrom 64 = .ok (.getfield 33, 3) := by decide +kernel
theorem dX2_cutFrom_67 : decode cX2_cutFrom 67 = .ok (.iload_n 3, 1) := by decide +kernel
theorem dX2_cutFrom_68 : decode cX2_cutFrom 68 = .ok (.aload_n 1, 1) := by decide +kernel
theorem dX2_cutFrom_69 : decode cX2_cutFrom 69 = .ok (.getfield 148, 3) := by decide +kernel
theorem dX2_cutFrom_72 : decode cX2_cutFrom 72 = .ok (.iastore, 1) := by decide +kernel
theorem dX2_cutFrom_73 : decode cX2_cutFrom 73 = .ok (.aload_n 0, 1) := by decide +kernel
theorem dX2_cutFrom_74 : decode cX2_cutFrom 74 = .ok (.getfield 36, 3) := by decide +kernel
theorem dX2_cutFrom_77 : decode cX2_cutFrom 77 = .ok (.iload_n 3, 1) := by decide +kernel
theorem dX2_cutFrom_78 : decode cX2_cutFrom 78 = .ok (.aload_n 1, 1) := by decide +kernel
theorem dX2_cutFrom_79 : decode cX2_cutFrom 79 = .ok (.getfield 151, 3) := by decide +kernel
theorem dX2_cutFrom_82 : decode cX2_cutFrom 82 = .ok (.iastore, 1) := by decide +kernel
theorem dX2_cutFrom_83 : decode cX2_cutFrom 83 = .ok (.iinc 3 1, 3) := by decide +kernel
theorem dX2_cutFrom_86 : decode cX2_cutFrom 86 = .ok (.goto (-84), 3) := by decide +kernel
theorem dX2_cutFrom_89 : decode cX2_cutFrom 89 = .ok (.iconst 1, 1) := by decide +kernel
theorem dX2_cutFrom_90 : decode cX2_cutFrom 90 = .ok (.ireturn, 1) := by decide +kernel
theorem dX2_fitsEnd_0 : decode cX2_fitsEnd 0 = .ok (.iconst 0, 1) := by decide +kernel
theorem dX2_fitsEnd_1 : decode cX2_fitsEnd 1 = .ok (.iload_n 1, 1) := by decide +kernel
theorem dX2_fitsEnd_2 : decode cX2_fitsEnd 2 = .ok (.aload_n 0, 1) := by decide +kernel
theorem dX2_fitsEnd_3 : decode cX2_fitsEnd 3 = .ok (.getfield 83, 3) := by decide +kernel
theorem dX2_fitsEnd_6 : decode cX2_fitsEnd 6 = .ok (.iconst 1, 1) := by decide +kernel
theorem dX2_fitsEnd_7 : decode cX2_fitsEnd 7 = .ok (.isub, 1) := by decide +kernel
theorem dX2_fitsEnd_8 : decode cX2_fitsEnd 8 = .ok (.invokestatic 154, 3) := by decide +kernel
theorem dX2_fitsEnd_11 : decode cX2_fitsEnd 11 = .ok (.ifCond .ne 5, 3) := by decide +kernel
theorem dX2_fitsEnd_14 : decode cX2_fitsEnd 14 = .ok (.iconst 0, 1) := by decide +kernel
theorem dX2_fitsEnd_15 : decode cX2_fitsEnd 15 = .ok (.ireturn, 1) := by decide +kernel
theorem dX2_fitsEnd_16 : decode cX2_fitsEnd 16 = .ok (.aload_n 0, 1) := by decide +kernel
theorem dX2_fitsEnd_17 : decode cX2_fitsEnd 17 = .ok (.getfield 43, 3) := by decide +kernel
theorem dX2_fitsEnd_20 : decode cX2_fitsEnd 20 = .ok (.iload_n 3, 1) := by decide +kernel
theorem dX2_fitsEnd_21 : decode cX2_fitsEnd 21 = .ok (.aload_n 0, 1) := by decide +kernel
theorem dX2_fitsEnd_22 : decode cX2_fitsEnd 22 = .ok (.getfield 30, 3) := by decide +kernel
theorem dX2_fitsEnd_25 : decode cX2_fitsEnd 25 = .ok (.iload_n 1, 1) := by decide +kernel
theorem dX2_fitsEnd_26 : decode cX2_fitsEnd 26 = .ok (.iaload, 1) := by decide +kernel
theorem dX2_fitsEnd_27 : decode cX2_fitsEnd 27 = .ok (.invokevirtual 158, 3) := by decide +kernel
theorem dX2_fitsEnd_30 : decode cX2_fitsEnd 30 = .ok (.aload_n 0, 1) := by decide +kernel
theorem dX2_fitsEnd_31 : decode cX2_fitsEnd 31 = .ok (.getfield 27, 3) := by decide +kernel
theorem dX2_fitsEnd_34 : decode cX2_fitsEnd 34 = .ok (.iload_n 1, 1) := by decide +kernel
theorem dX2_fitsEnd_35 : decode cX2_fitsEnd 35 = .ok (.iaload, 1) := by decide +kernel
theorem dX2_fitsEnd_36 : decode cX2_fitsEnd 36 = .ok (.iadd, 1) := by decide +kernel
theorem dX2_fitsEnd_37 : decode cX2_fitsEnd 37 = .ok (.iload_n 3, 1) := by decide +kernel
theorem dX2_fitsEnd_38 : decode cX2_fitsEnd 38 = .ok (.iload_n 2, 1) := by decide +kernel
theorem dX2_fitsEnd_39 : decode cX2_fitsEnd 39 = .ok (.iadd, 1) := by decide +kernel
theorem dX2_fitsEnd_40 : decode cX2_fitsEnd 40 = .ok (.if_icmp .gt 7, 3) := by decide +kernel
theorem dX2_fitsEnd_43 : decode cX2_fitsEnd 43 = .ok (.iconst 1, 1) := by decide +kernel
theorem dX2_fitsEnd_44 : decode cX2_fitsEnd 44 = .ok (.goto 4, 3) := by decide +kernel
theorem dX2_fitsEnd_47 : decode cX2_fitsEnd 47 = .ok (.iconst 0, 1) := by decide +kernel
theorem dX2_fitsEnd_48 : decode cX2_fitsEnd 48 = .ok (.ireturn, 1) := by decide +kernel
theorem dX3_stripsFor_0 : decode cX3_stripsFor 0 = .ok (.iload_n 1, 1) := by decide +kernel
theorem dX3_stripsFor_1 : decode cX3_stripsFor 1 = .ok (.aload_n 0, 1) := by decide +kernel
theorem dX3_stripsFor_2 : decode cX3_stripsFor 2 = .ok (.getfield 9, 3) := by decide +kernel
theorem dX3_stripsFor_5 : decode cX3_stripsFor 5 = .ok (.invokestatic 34, 3) := by decide +kernel
theorem dX3_stripsFor_8 : decode cX3_stripsFor 8 = .ok (.ireturn, 1) := by decide +kernel
theorem dX3_offsetOf_0 : decode cX3_offsetOf 0 = .ok (.aload_n 0, 1) := by decide +kernel
theorem dX3_offsetOf_1 : decode cX3_offsetOf 1 = .ok (.getfield 18, 3) := by decide +kernel
theorem dX3_offsetOf_4 : decode cX3_offsetOf 4 = .ok (.iconst 1, 1) := by decide +kernel
theorem dX3_offsetOf_5 : decode cX3_offsetOf 5 = .ok (.if_icmp .ne 14, 3) := by decide +kernel
theorem dX3_offsetOf_8 : decode cX3_offsetOf 8 = .ok (.iload_n 1, 1) := by decide +kernel
theorem dX3_offsetOf_9 : decode cX3_offsetOf 9 = .ok (.iconst 1, 1) := by decide +kernel
theorem dX3_offsetOf_10 : decode cX3_offsetOf 10 = .ok (.iand, 1) := by decide +kernel
theorem dX3_offsetOf_11 : decode cX3_offsetOf 11 = .ok (.iconst 1, 1) := by decide +kernel
theorem dX3_offsetOf_12 : decode cX3_offsetOf 12 = .ok (.if_icmp .ne 7, 3) := by decide +kernel
theorem dX3_offsetOf_15 : decode cX3_offsetOf 15 = .ok (.iconst 1, 1) := by decide +kernel
theorem dX3_offsetOf_16 : decode cX3_offsetOf 16 = .ok (.goto 4, 3) := by decide +kernel
theorem dX3_offsetOf_19 : decode cX3_offsetOf 19 = .ok (.iconst 0, 1) := by decide +kernel
theorem dX3_offsetOf_20 : decode cX3_offsetOf 20 = .ok (.istore_n 3, 1) := by decide +kernel
theorem dX3_offsetOf_21 : decode cX3_offsetOf 21 = .ok (.iload_n 3, 1) := by decide +kernel
theorem dX3_offsetOf_22 : decode cX3_offsetOf 22 = .ok (.ifCond .eq 14, 3) := by decide +kernel
theorem dX3_offsetOf_25 : decode cX3_offsetOf 25 = .ok (.iload_n 2, 1) := by decide +kernel
theorem dX3_offsetOf_26 : decode cX3_offsetOf 26 = .ok (.aload_n 0, 1) := by decide +kernel
theorem dX3_offsetOf_27 : decode cX3_offsetOf 27 = .ok (.getfield 15, 3) := by decide +kernel
theorem dX3_offsetOf_30 : decode cX3_offsetOf 30 = .ok (.iconst 2, 1) := by decide +kernel
theorem dX3_offsetOf_31 : decode cX3_offsetOf 31 = .ok (.idiv, 1) := by decide +kernel
theorem dX3_offsetOf_32 : decode cX3_offsetOf 32 = .ok (.iadd, 1) := by decide +kernel
theorem dX3_offsetOf_33 : decode cX3_offsetOf 33 = .ok (.goto 4, 3) := by decide +kernel
theorem dX3_offsetOf_36 : decode cX3_offsetOf 36 = .ok (.iload_n 2, 1) := by decide +kernel
theorem dX3_offsetOf_37 : decode cX3_offsetOf 37 = .ok (.aload_n 0, 1) := by decide +kernel
theorem dX3_offsetOf_38 : decode cX3_offsetOf 38 = .ok (.getfield 15, 3) := by decide +kernel
theorem dX3_offsetOf_41 : decode cX3_offsetOf 41 = .ok (.invokestatic 38, 3) := by decide +kernel
theorem dX3_offsetOf_44 : decode cX3_offsetOf 44 = .ok (.ireturn, 1) := by decide +kernel
theorem dX3_phaseAt_0 : decode cX3_phaseAt 0 = .ok (.aload_n 0, 1) := by decide +kernel
theorem dX3_phaseAt_1 : decode cX3_phaseAt 1 = .ok (.getfield 18, 3) := by decide +kernel
theorem dX3_phaseAt_4 : decode cX3_phaseAt 4 = .ok (.iconst 2, 1) := by decide +kernel
theorem dX3_phaseAt_5 : decode cX3_phaseAt 5 = .ok (.if_icmp .ne 7, 3) := by decide +kernel
theorem dX3_phaseAt_8 : decode cX3_phaseAt 8 = .ok (.iconst 0, 1) := by decide +kernel
theorem dX3_phaseAt_9 : decode cX3_phaseAt 9 = .ok (.goto 11, 3) := by decide +kernel
theorem dX3_phaseAt_12 : decode cX3_phaseAt 12 = .ok (.iload_n 1, 1) := by decide +kernel
theorem dX3_phaseAt_13 : decode cX3_phaseAt 13 = .ok (.aload_n 0, 1) := by decide +kernel
theorem dX3_phaseAt_14 : decode cX3_phaseAt 14 = .ok (.getfield 15, 3) := by decide +kernel
theorem dX3_phaseAt_17 : decode cX3_phaseAt 17 = .ok (.invokestatic 38, 3) := by decide +kernel
theorem dX3_phaseAt_20 : decode cX3_phaseAt 20 = .ok (.ireturn, 1) := by decide +kernel
theorem dX3_placeBehind_0 : decode cX3_placeBehind 0 = .ok (.aload_n 0, 1) := by decide +kernel
theorem dX3_placeBehind_1 : decode cX3_placeBehind 1 = .ok (.getfield 18, 3) := by decide +kernel
theorem dX3_placeBehind_4 : decode cX3_placeBehind 4 = .ok (.iconst 2, 1) := by decide +kernel
theorem dX3_placeBehind_5 : decode cX3_placeBehind 5 = .ok (.if_icmp .ne 7, 3) := by decide +kernel
theorem dX3_placeBehind_8 : decode cX3_placeBehind 8 = .ok (.iload_n 1, 1) := by decide +kernel
theorem dX3_placeBehind_9 : decode cX3_placeBehind 9 = .ok (.goto 15, 3) := by decide +kernel
theorem dX3_placeBehind_12 : decode cX3_placeBehind 12 = .ok (.iload_n 1, 1) := by decide +kernel
theorem dX3_placeBehind_13 : decode cX3_placeBehind 13 = .ok (.iload_n 2, 1) := by decide +kernel
theorem dX3_placeBehind_14 : decode cX3_placeBehind 14 = .ok (.iload_n 1, 1) := by decide +kernel
theorem dX3_placeBehind_15 : decode cX3_placeBehind 15 = .ok (.isub, 1) := by decide +kernel
theorem dX3_placeBehind_16 : decode cX3_placeBehind 16 = .ok (.aload_n 0, 1) := by decide +kernel
theorem dX3_placeBehind_17 : decode cX3_placeBehind 17 = .ok (.getfield 15, 3) := by decide +kernel
theorem dX3_placeBehind_20 : decode cX3_placeBehind 20 = .ok (.invokestatic 38, 3) := by decide +kernel
theorem dX3_placeBehind_23 : decode cX3_placeBehind 23 = .ok (.iadd, 1) := by decide +kernel
theorem dX3_placeBehind_24 : decode cX3_placeBehind 24 = .ok (.ireturn, 1) := by decide +kernel
theorem dX4_read_0 : decode cX4_read 0 = .ok (.aload_n 0, 1) := by decide +kernel
theorem dX4_read_1 : decode cX4_read 1 = .ok (.getfield 9, 3) := by decide +kernel
theorem dX4_read_4 : decode cX4_read 4 = .ok (.invokevirtual 15, 3) := by decide +kernel
theorem dX4_read_7 : decode cX4_read 7 = .ok (.aload_n 0, 1) := by decide +kernel
theorem dX4_read_8 : decode cX4_read 8 = .ok (.iconst 0, 1) := by decide +kernel
theorem dX4_read_9 : decode cX4_read 9 = .ok (.putfield 20, 3) := by decide +kernel
theorem dX4_read_12 : decode cX4_read 12 = .ok (.aload_n 0, 1) := by decide +kernel
theorem dX4_read_13 : decode cX4_read 13 = .ok (.aload_n 1, 1) := by decide +kernel
theorem dX4_read_14 : decode cX4_read 14 = .ok (.putfield 24, 3) := by decide +kernel
theorem dX4_read_17 : decode cX4_read 17 = .ok (.aload_n 0, 1) := by decide +kernel
theorem dX4_read_18 : decode cX4_read 18 = .ok (.getfield 24, 3) := by decide +kernel
theorem dX4_read_21 : decode cX4_read 21 = .ok (.invokevirtual 28, 3) := by decide +kernel
theorem dX4_read_24 : decode cX4_read 24 = .ok (.iconst 0, 1) := by decide +kernel
theorem dX4_read_25 : decode cX4_read 25 = .ok (.istore_n 2, 1) := by decide +kernel
theorem dX4_read_26 : decode cX4_read 26 = .ok (.iload_n 2, 1) := by decide +kernel
theorem dX4_read_27 : decode cX4_read 27 = .ok (.sipush 400, 3) := by decide +kernel
theorem dX4_read_30 : decode cX4_read 30 = .ok (.if_icmp .ge 30, 3) := by decide +kernel
theorem dX4_read_33 : decode cX4_read 33 = .ok (.aload_n 0, 1) := by decide +kernel
theorem dX4_read_34 : decode cX4_read 34 = .ok (.bipush 10, 2) := by decide +kernel
theorem dX4_read_36 : decode cX4_read 36 = .ok (.invokevirtual 33, 3) := by decide +kernel
theorem dX4_read_39 : decode cX4_read 39 = .ok (.ifCond .ne 21, 3) := by decide +kernel
theorem dX4_read_42 : decode cX4_read 42 = .ok (.aload_n 0, 1) := by decide +kernel
theorem dX4_read_43 : decode cX4_read 43 = .ok (.invokevirtual 37, 3) := by decide +kernel
theorem dX4_read_46 : decode cX4_read 46 = .ok (.ifCond .ne 8, 3) := by decide +kernel
theorem dX4_read_49 : decode cX4_read 49 = .ok (.aload_n 0, 1) := by decide +kernel
theorem dX4_read_50 : decode cX4_read 50 = .ok (.invokevirtual 41, 3) := by decide +kernel
theorem dX4_read_53 : decode cX4_read 53 = .ok (.ireturn, 1) := by decide +kernel
theorem dX4_read_54 : decode cX4_read 54 = .ok (.iinc 2 1, 3) := by decide +kernel
theorem dX4_read_57 : decode cX4_read 57 = .ok (.goto (-31), 3) := by decide +kernel
theorem dX4_read_60 : decode cX4_read 60 = .ok (.aload_n 0, 1) := by decide +kernel
theorem dX4_read_61 : decode cX4_read 61 = .ok (.getfield 24, 3) := by decide +kernel
theorem dX4_read_64 : decode cX4_read 64 = .ok (.getfield 45, 3) := by decide +kernel
theorem dX4_read_67 : decode cX4_read 67 = .ok (.getfield 49, 3) := by decide +kernel
theorem dX4_read_70 : decode cX4_read 70 = .ok (.ifCond .ne 13, 3) := by decide +kernel
theorem dX4_read_73 : decode cX4_read 73 = .ok (.aload_n 0, 1) := by decide +kernel
theorem dX4_read_74 : decode cX4_read 74 = .ok (.getfield 9, 3) := by decide +kernel
theorem dX4_read_77 : decode cX4_read 77 = .ok (.getfield 54, 3) := by decide +kernel
theorem dX4_read_80 : decode cX4_read 80 = .ok (.goto 4, 3) := by decide +kernel
theorem dX4_read_83 : decode cX4_read 83 = .ok (.iconst (-1), 1) := by decide +kernel
theorem dX4_read_84 : decode cX4_read 84 = .ok (.ireturn, 1) := by decide +kernel
theorem dX4_isNext_0 : decode cX4_isNext 0 = .ok (.aload_n 0, 1) := by decide +kernel
theorem dX4_isNext_1 : decode cX4_isNext 1 = .ok (.getfield 20, 3) := by decide +kernel
theorem dX4_isNext_4 : decode cX4_isNext 4 = .ok (.aload_n 0, 1) := by decide +kernel
theorem dX4_isNext_5 : decode cX4_isNext 5 = .ok (.getfield 9, 3) := by decide +kernel
theorem dX4_isNext_8 : decode cX4_isNext 8 = .ok (.getfield 57, 3) := by decide +kernel
theorem dX4_isNext_11 : decode cX4_isNext 11 = .ok (.if_icmp .ge 23, 3) := by decide +kernel
theorem dX4_isNext_14 : decode cX4_isNext 14 = .ok (.aload_n 0, 1) := by decide +kernel
theorem dX4_isNext_15 : decode cX4_isNext 15 = .ok (.getfield 9, 3) := by decide +kernel
theorem dX4_isNext_18 : decode cX4_isNext 18 = .ok (.getfield 60, 3) := by decide +kernel
theorem dX4_isNext_21 : decode cX4_isNext 21 = .ok (.aload_n 0, 1) := by decide +kernel
theorem dX4_isNext_22 : decode cX4_isNext 22 = .ok (.getfield 20, 3) := by decide +kernel
theorem dX4_isNext_25 : decode cX4_isNext 25 = .ok (.iaload, 1) := by decide +kernel
theorem dX4_isNext_26 : decode cX4_isNext 26 = .ok (.iload_n 1, 1) := by decide +kernel
theorem dX4_isNext_27 : decode cX4_isNext 27 = .ok (.if_icmp .ne 7, 3) := by decide +kernel
theorem dX4_isNext_30 : decode cX4_isNext 30 = .ok (.iconst 1, 1) := by decide +kernel
theorem dX4_isNext_31 : decode cX4_isNext 31 = .ok (.goto 4, 3) := by decide +kernel
theorem dX4_isNext_34 : decode cX4_isNext 34 = .ok (.iconst 0, 1) := by decide +kernel
theorem dX4_isNext_35 : decode cX4_isNext 35 = .ok (.ireturn, 1) := by decide +kernel
theorem dX4_placeOfNext_0 : decode cX4_placeOfNext 0 = .ok (.aload_n 0, 1) := by decide +kernel
theorem dX4_placeOfNext_1 : decode cX4_placeOfNext 1 = .ok (.getfield 20, 3) := by decide +kernel
theorem dX4_placeOfNext_4 : decode cX4_placeOfNext 4 = .ok (.aload_n 0, 1) := by decide +kernel
theorem dX4_placeOfNext_5 : decode cX4_placeOfNext 5 = .ok (.getfield 9, 3) := by decide +kernel
theorem dX4_placeOfNext_8 : decode cX4_placeOfNext 8 = .ok (.getfield 57, 3) := by decide +kernel
theorem dX4_placeOfNext_11 : decode cX4_placeOfNext 11 = .ok (.if_icmp .ge 18, 3) := by decide +kernel
theorem dX4_placeOfNext_14 : decode cX4_placeOfNext 14 = .ok (.aload_n 0, 1) := by decide +kernel
theorem dX4_placeOfNext_15 : decode cX4_placeOfNext 15 = .ok (.getfield 9, 3) := by decide +kernel
theorem dX4_placeOfNext_18 : decode cX4_placeOfNext 18 = .ok (.getfield 64, 3) := by decide +kernel
theorem dX4_placeOfNext_21 : decode cX4_placeOfNext 21 = .ok (.aload_n 0, 1) := by decide +kernel
theorem dX4_placeOfNext_22 : decode cX4_placeOfNext 22 = .ok (.getfield 20, 3) := by decide +kernel
theorem dX4_placeOfNext_25 : decode cX4_placeOfNext 25 = .ok (.iaload, 1) := by decide +kernel
theorem dX4_placeOfNext_26 : decode cX4_placeOfNext 26 = .ok (.goto 10, 3) := by decide +kernel
theorem dX4_placeOfNext_29 : decode cX4_placeOfNext 29 = .ok (.aload_n 0, 1) := by decide +kernel
theorem dX4_placeOfNext_30 : decode cX4_placeOfNext 30 = .ok (.getfield 9, 3) := by decide +kernel
theorem dX4_placeOfNext_33 : decode cX4_placeOfNext 33 = .ok (.getfield 54, 3) := by decide +kernel
theorem dX4_placeOfNext_36 : decode cX4_placeOfNext 36 = .ok (.ireturn, 1) := by decide +kernel
theorem dX4_readLine_0 : decode cX4_readLine 0 = .ok (.aload_n 0, 1) := by decide +kernel
theorem dX4_readLine_1 : decode cX4_readLine 1 = .ok (.iconst 0, 1) := by decide +kernel
theorem dX4_readLine_2 : decode cX4_readLine 2 = .ok (.invokevirtual 33, 3) := by decide +kernel
theorem dX4_readLine_5 : decode cX4_readLine 5 = .ok (.ifCond .eq 31, 3) := by decide +kernel
theorem dX4_readLine_8 : decode cX4_readLine 8 = .ok (.aload_n 0, 1) := by decide +kernel
theorem dX4_readLine_9 : decode cX4_readLine 9 = .ok (.getfield 24, 3) := by decide +kernel
theorem dX4_readLine_12 : decode cX4_readLine 12 = .ok (.getfield 45, 3) := by decide +kernel
theorem dX4_readLine_15 : decode cX4_readLine 15 = .ok (.getfield 49, 3) := by decide +kernel
theorem dX4_readLine_18 : decode cX4_readLine 18 = .ok (.bipush 8, 2) := by decide +kernel
theorem dX4_readLine_20 : decode cX4_readLine 20 = .ok (.if_icmp .ge 14, 3) := by decide +kernel
theorem dX4_readLine_23 : decode cX4_readLine 23 = .ok (.aload_n 0, 1) := by decide +kernel
theorem dX4_readLine_24 : decode cX4_readLine 24 = .ok (.invokevirtual 67, 3) := by decide +kernel
theorem dX4_readLine_27 : decode cX4_readLine 27 = .ok (.ifCond .eq 7, 3) := by decide +kernel
theorem dX4_readLine_30 : decode cX4_readLine 30 = .ok (.iconst 1, 1) := by decide +kernel
theorem dX4_readLine_31 : decode cX4_readLine 31 = .ok (.goto 4, 3) := by decide +kernel
theorem dX4_readLine_34 : decode cX4_readLine 34 = .ok (.iconst 0, 1) := by decide +kernel
theorem dX4_readLine_35 : decode cX4_readLine 35 = .ok (.ireturn, 1) := by decide +kernel
theorem dX4_readLine_36 : decode cX4_readLine 36 = .ok (.aload_n 0, 1) := by decide +kernel
theorem dX4_readLine_37 : decode cX4_readLine 37 = .ok (.iconst 1, 1) := by decide +kernel
theorem dX4_readLine_38 : decode cX4_readLine 38 = .ok (.invokevirtual 33, 3) := by decide +kernel
theorem dX4_readLine_41 : decode cX4_readLine 41 = .ok (.ifCond .eq 28, 3) := by decide +kernel
theorem dX4_readLine_44 : decode cX4_readLine 44 = .ok (.aload_n 0, 1) := by decide +kernel
theorem dX4_readLine_45 : decode cX4_readLine 45 = .ok (.getfield 24, 3) := by decide +kernel
theorem dX4_readLine_48 : decode cX4_readLine 48 = .ok (.getfield 70, 3) := by decide +kernel
theorem dX4_readLine_51 : decode cX4_readLine 51 = .ok (.bipush 8, 2) := by decide +kernel
theorem dX4_readLine_53 : decode cX4_readLine 53 = .ok (.if_icmp .ge 14, 3) := by decide +kernel
theorem dX4_readLine_56 : decode cX4_readLine 56 = .ok (.aload_n 0, 1) := by decide +kernel
theorem dX4_readLine_57 : decode cX4_readLine 57 = .ok (.invokevirtual 73, 3) := by decide +kernel
theorem dX4_readLine_60 : decode cX4_readLine 60 = .ok (.ifCond .eq 7, 3) := by decide +kernel
theorem dX4_readLine_63 : decode cX4_readLine 63 = .ok (.iconst 1, 1) := by decide +kernel
theorem dX4_readLine_64 : decode cX4_readLine 64 = .ok (.goto 4, 3) := by decide +kernel
theorem dX4_readLine_67 : decode cX4_readLine 67 = .ok (.iconst 0, 1) := by decide +kernel
theorem dX4_readLine_68 : decode cX4_readLine 68 = .ok (.ireturn, 1) := by decide +kernel
theorem dX4_readLine_69 : decode cX4_readLine 69 = .ok (.aload_n 0, 1) := by decide +kernel
theorem dX4_readLine_70 : decode cX4_readLine 70 = .ok (.iconst 2, 1) := by decide +kernel
theorem dX4_readLine_71 : decode cX4_readLine 71 = .ok (.invokevirtual 33, 3) := by decide +kernel
theorem dX4_readLine_74 : decode cX4_readLine 74 = .ok (.ifCond .eq 28, 3) := by decide +kernel
theorem dX4_readLine_77 : decode cX4_readLine 77 = .ok (.aload_n 0, 1) := by decide +kernel
theorem dX4_readLine_78 : decode cX4_readLine 78 = .ok (.getfield 24, 3) := by decide +kernel
theorem dX4_readLine_81 : decode cX4_readLine 81 = .ok (.getfield 70, 3) := by decide +kernel
theorem dX4_readLine_84 : decode cX4_readLine 84 = .ok (.bipush 8, 2) := by decide +kernel
theorem dX4_readLine_86 : decode cX4_readLine 86 = .ok (.if_icmp .ge 14, 3) := by decide +kernel
theorem dX4_readLine_89 : decode cX4_readLine 89 = .ok (.aload_n 0, 1) := by decide +kernel
theorem dX4_readLine_90 : decode cX4_readLine 90 = .ok (.invokevirtual 76, 3) := by decide +kernel
theorem dX4_readLine_93 : decode cX4_readLine 93 = .ok (.ifCond .eq 7, 3) := by decide +kernel
theorem dX4_readLine_96 : decode cX4_readLine 96 = .ok (.iconst 1, 1) := by decide +kernel
theorem dX4_readLine_97 : decode cX4_readLine 97 = .ok (.goto 4, 3) := by decide +kernel
theorem dX4_readLine_100 : decode cX4_readLine 100 = .ok (.iconst 0, 1) := by decide +kernel
theorem dX4_readLine_101 : decode cX4_readLine 101 = .ok (.ireturn, 1) := by decide +kernel
theorem dX4_readLine_102 : decode cX4_readLine 102 = .ok (.aload_n 0, 1) := by decide +kernel
theorem dX4_readLine_103 : decode cX4_readLine 103 = .ok (.iconst 3, 1) := by decide +kernel
theorem dX4_readLine_104 : decode cX4_readLine 104 = .ok (.invokevirtual 33, 3) := by decide +kernel
theorem dX4_readLine_107 : decode cX4_readLine 107 = .ok (.ifCond .eq 8, 3) := by decide +kernel
theorem dX4_readLine_110 : decode cX4_readLine 110 = .ok (.aload_n 0, 1) := by decide +kernel
theorem dX4_readLine_111 : decode cX4_readLine 111 = .ok (.invokevirtual 79, 3) := by decide +kernel
theorem dX4_readLine_114 : decode cX4_readLine 114 = .ok (.ireturn, 1) := by decide +kernel
theorem dX4_readLine_115 : decode cX4_readLine 115 = .ok (.aload_n 0, 1) := by decide +kernel
theorem dX4_readLine_116 : decode cX4_readLine 116 = .ok (.iconst 4, 1) := by decide +kernel
theorem dX4_readLine_117 : decode cX4_readLine 117 = .ok (.invokevirtual 33, 3) := by decide +kernel
theorem dX4_readLine_120 : decode cX4_readLine 120 = .ok (.ifCond .eq 25, 3) := by decide +kernel
theorem dX4_readLine_123 : decode cX4_readLine 123 = .ok (.aload_n 0, 1) := by decide +kernel
theorem dX4_readLine_124 : decode cX4_readLine 124 = .ok (.getfield 24, 3) := by decide +kernel
theorem dX4_readLine_127 : decode cX4_readLine 127 = .ok (.getfield 82, 3) := by decide +kernel
theorem dX4_readLine_130 : decode cX4_readLine 130 = .ok (.iconst 4, 1) := by decide +kernel
theorem dX4_readLine_131 : decode cX4_readLine 131 = .ok (.if_icmp .ge 14, 3) := by decide +kernel
theorem dX4_readLine_134 : decode cX4_readLine 134 = .ok (.aload_n 0, 1) := by decide +kernel
theorem dX4_readLine_135 : decode cX4_readLine 135 = .ok (.invokevirtual 85, 3) := by decide +kernel
theorem dX4_readLine_138 : decode cX4_readLine 138 = .ok (.ifCond .eq 7, 3) := by decide +kernel
theorem dX4_readLine_141 : decode cX4_readLine 141 = .ok (.iconst 1, 1) := by decide +kernel
theorem dX4_readLine_142 : decode cX4_readLine 142 = .ok (.goto 4, 3) := by decide +kernel
theorem dX4_readLine_145 : decode cX4_readLine 145 = .ok (.iconst 0, 1) := by decide +kernel
theorem dX4_readLine_146 : decode cX4_readLine 146 = .ok (.ireturn, 1) := by decide +kernel
theorem dX4_readWall_0 : decode cX4_readWall 0 = .ok (.aload_n 0, 1) := by decide +kernel
theorem dX4_readWall_1 : decode cX4_readWall 1 = .ok (.dup, 1) := by decide +kernel
theorem dX4_readWall_2 : decode cX4_readWall 2 = .ok (.getfield 20, 3) := by decide +kernel
theorem dX4_readWall_5 : decode cX4_readWall 5 = .ok (.iconst 1, 1) := by decide +kernel
theorem dX4_readWall_6 : decode cX4_readWall 6 = .ok (.iadd, 1) := by decide +kernel
theorem dX4_readWall_7 : decode cX4_readWall 7 = .ok (.putfield 20, 3) := by decide +kernel
theorem dX4_readWall_10 : decode cX4_readWall 10 = .ok (.aload_n 0, 1) := by decide +kernel
theorem dX4_readWall_11 : decode cX4_readWall 11 = .ok (.bipush 50, 2) := by decide +kernel
theorem dX4_readWall_13 : decode cX4_readWall 13 = .ok (.sipush 600, 3) := by decide +kernel
theorem dX4_readWall_16 : decode cX4_readWall 16 = .ok (.invokevirtual 88, 3) := by decide +kernel
theorem dX4_readWall_19 : decode cX4_readWall 19 = .ok (.istore_n 1, 1) := by decide +kernel
theorem dX4_readWall_20 : decode cX4_readWall 20 = .ok (.iload_n 1, 1) := by decide +kernel
theorem dX4_readWall_21 : decode cX4_readWall 21 = .ok (.iconst (-1), 1) := by decide +kernel
theorem dX4_readWall_22 : decode cX4_readWall 22 = .ok (.if_icmp .ne 7, 3) := by decide +kernel
theorem dX4_readWall_25 : decode cX4_readWall 25 = .ok (.iconst (-1), 1) := by decide +kernel
theorem dX4_readWall_26 : decode cX4_readWall 26 = .ok (.goto 12, 3) := by decide +kernel
theorem dX4_readWall_29 : decode cX4_readWall 29 = .ok (.aload_n 0, 1) := by decide +kernel
theorem dX4_readWall_30 : decode cX4_readWall 30 = .ok (.bipush 100, 2) := by decide +kernel
theorem dX4_readWall_32 : decode cX4_readWall 32 = .ok (.sipush 400, 3) := by decide +kernel
theorem dX4_readWall_35 : decode cX4_readWall 35 = .ok (.invokevirtual 88, 3) := by decide +kernel
theorem dX4_readWall_38 : decode cX4_readWall 38 = .ok (.istore_n 2, 1) := by decide +kernel
theorem dX4_readWall_39 : decode cX4_readWall 39 = .ok (.iload_n 2, 1) := by decide +kernel
theorem dX4_readWall_40 : decode cX4_readWall 40 = .ok (.iconst (-1), 1) := by decide +kernel
theorem dX4_readWall_41 : decode cX4_readWall 41 = .ok (.if_icmp .ne 7, 3) := by decide +kernel
theorem dX4_readWall_44 : decode cX4_readWall 44 = .ok (.iconst (-1), 1) := by decide +kernel
theorem dX4_readWall_45 : decode cX4_readWall 45 = .ok (.goto 12, 3) := by decide +kernel
theorem dX4_readWall_48 : decode cX4_readWall 48 = .ok (.aload_n 0, 1) := by decide +kernel
theorem dX4_readWall_49 : decode cX4_readWall 49 = .ok (.bipush 100, 2) := by decide +kernel
theorem dX4_readWall_51 : decode cX4_readWall 51 = .ok (.sipush 400, 3) := by decide +kernel
theorem dX4_readWall_54 : decode cX4_readWall 54 = .ok (.invokevirtual 88, 3) := by decide +kernel
theorem dX4_readWall_57 : decode cX4_readWall 57 = .ok (.istore_n 3, 1) := by decide +kernel
theorem dX4_readWall_58 : decode cX4_readWall 58 = .ok (.iload_n 3, 1) := by decide +kernel
theorem dX4_readWall_59 : decode cX4_readWall 59 = .ok (.iconst (-1), 1) := by decide +kernel
theorem dX4_readWall_60 : decode cX4_readWall 60 = .ok (.if_icmp .eq 12, 3) := by decide +kernel
theorem dX4_readWall_63 : decode cX4_readWall 63 = .ok (.aload_n 0, 1) := by decide +kernel
theorem dX4_readWall_64 : decode cX4_readWall 64 = .ok (.bipush 8, 2) := by decide +kernel
theorem dX4_readWall_66 : decode cX4_readWall 66 = .ok (.invokevirtual 92, 3) := by decide +kernel
theorem dX4_readWall_69 : decode cX4_readWall 69 = .ok (.ifCond .ne 5, 3) := by decide +kernel
theorem dX4_readWall_72 : decode cX4_readWall 72 = .ok (.iconst 0, 1) := by decide +kernel
theorem dX4_readWall_73 : decode cX4_readWall 73 = .ok (.ireturn, 1) := by decide +kernel
theorem dX4_readWall_74 : decode cX4_readWall 74 = .ok (.aload_n 0, 1) := by decide +kernel
theorem dX4_readWall_75 : decode cX4_readWall 75 = .ok (.getfield 24, 3) := by decide +kernel
theorem dX4_readWall_78 : decode cX4_readWall 78 = .ok (.getfield 45, 3) := by decide +kernel
theorem dX4_readWall_81 : decode cX4_readWall 81 = .ok (.iload_n 1, 1) := by decide +kernel
theorem dX4_readWall_82 : decode cX4_readWall 82 = .ok (.iload_n 2, 1) := by decide +kernel
theorem dX4_readWall_83 : decode cX4_readWall 83 = .ok (.iload_n 3, 1) := by decide +kernel
theorem dX4_readWall_84 : decode cX4_readWall 84 = .ok (.invokevirtual 95, 3) := by decide +kernel
theorem dX4_readWall_87 : decode cX4_readWall 87 = .ok (.iconst 1, 1) := by decide +kernel
theorem dX4_readWall_88 : decode cX4_readWall 88 = .ok (.ireturn, 1) := by decide +kernel
theorem dX4_readDoor_0 : decode cX4_readDoor 0 = .ok (.aload_n 0, 1) := by decide +kernel
theorem dX4_readDoor_1 : decode cX4_readDoor 1 = .ok (.dup, 1) := by decide +kernel
theorem dX4_readDoor_2 : decode cX4_readDoor 2 = .ok (.getfield 20, 3) := by decide +kernel
theorem dX4_readDoor_5 : decode cX4_readDoor 5 = .ok (.iconst 1, 1) := by decide +kernel
theorem dX4_readDoor_6 : decode cX4_readDoor 6 = .ok (.iadd, 1) := by decide +kernel
theorem dX4_readDoor_7 : decode cX4_readDoor 7 = .ok (.putfield 20, 3) := by decide +kernel
theorem dX4_readDoor_10 : decode cX4_readDoor 10 = .ok (.aload_n 0, 1) := by decide +kernel
theorem dX4_readDoor_11 : decode cX4_readDoor 11 = .ok (.iconst 0, 1) := by decide +kernel
theorem dX4_readDoor_12 : decode cX4_readDoor 12 = .ok (.aload_n 0, 1) := by decide +kernel
theorem dX4_readDoor_13 : decode cX4_readDoor 13 = .ok (.getfield 24, 3) := by decide +kernel
theorem dX4_readDoor_16 : decode cX4_readDoor 16 = .ok (.getfield 45, 3) := by decide +kernel
theorem dX4_readDoor_19 : decode cX4_readDoor 19 = .ok (.getfield 49, 3) := by decide +kernel
theorem dX4_readDoor_22 : decode cX4_readDoor 22 = .ok (.iconst 1, 1) := by decide +kernel
theorem dX4_readDoor_23 : decode cX4_readDoor 23 = .ok (.isub, 1) := by decide +kernel
theorem dX4_readDoor_24 : decode cX4_readDoor 24 = .ok (.invokevirtual 88, 3) := by decide +kernel
theorem dX4_readDoor_27 : decode cX4_readDoor 27 = .ok (.istore_n 1, 1) := by decide +kernel
