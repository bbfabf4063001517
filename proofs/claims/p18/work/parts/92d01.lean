theorem dX12_longOf_0 : decode cX12_longOf 0 = .ok (.aload_n 0, 1) := by decide +kernel
theorem dX12_longOf_1 : decode cX12_longOf 1 = .ok (.getfield 137, 3) := by decide +kernel
theorem dX12_longOf_4 : decode cX12_longOf 4 = .ok (.iload_n 1, 1) := by decide +kernel
theorem dX12_longOf_5 : decode cX12_longOf 5 = .ok (.iaload, 1) := by decide +kernel
theorem dX12_longOf_6 : decode cX12_longOf 6 = .ok (.aload_n 0, 1) := by decide +kernel
theorem dX12_longOf_7 : decode cX12_longOf 7 = .ok (.getfield 134, 3) := by decide +kernel
theorem dX12_longOf_10 : decode cX12_longOf 10 = .ok (.iload_n 1, 1) := by decide +kernel
theorem dX12_longOf_11 : decode cX12_longOf 11 = .ok (.iaload, 1) := by decide +kernel
theorem dX12_longOf_12 : decode cX12_longOf 12 = .ok (.isub, 1) := by decide +kernel
theorem dX12_longOf_13 : decode cX12_longOf 13 = .ok (.iconst 2, 1) := by decide +kernel
theorem dX12_longOf_14 : decode cX12_longOf 14 = .ok (.aload_n 0, 1) := by decide +kernel
theorem dX12_longOf_15 : decode cX12_longOf 15 = .ok (.getfield 103, 3) := by decide +kernel
theorem dX12_longOf_18 : decode cX12_longOf 18 = .ok (.imul, 1) := by decide +kernel
theorem dX12_longOf_19 : decode cX12_longOf 19 = .ok (.iadd, 1) := by decide +kernel
theorem dX12_longOf_20 : decode cX12_longOf 20 = .ok (.ireturn, 1) := by decide +kernel
theorem dX12_phaseOf_0 : decode cX12_phaseOf 0 = .ok (.aload_n 0, 1) := by decide +kernel
theorem dX12_phaseOf_1 : decode cX12_phaseOf 1 = .ok (.getfield 91, 3) := by decide +kernel
theorem dX12_phaseOf_4 : decode cX12_phaseOf 4 = .ok (.aload_n 0, 1) := by decide +kernel
theorem dX12_phaseOf_5 : decode cX12_phaseOf 5 = .ok (.getfield 340, 3) := by decide +kernel
theorem dX12_phaseOf_8 : decode cX12_phaseOf 8 = .ok (.iaload, 1) := by decide +kernel
theorem dX12_phaseOf_9 : decode cX12_phaseOf 9 = .ok (.iconst 2, 1) := by decide +kernel
theorem dX12_phaseOf_10 : decode cX12_phaseOf 10 = .ok (.if_icmp .ne 5, 3) := by decide +kernel
theorem dX12_phaseOf_13 : decode cX12_phaseOf 13 = .ok (.iconst 0, 1) := by decide +kernel
theorem dX12_phaseOf_14 : decode cX12_phaseOf 14 = .ok (.ireturn, 1) := by decide +kernel
theorem dX12_phaseOf_15 : decode cX12_phaseOf 15 = .ok (.aload_n 0, 1) := by decide +kernel
theorem dX12_phaseOf_16 : decode cX12_phaseOf 16 = .ok (.aload_n 0, 1) := by decide +kernel
theorem dX12_phaseOf_17 : decode cX12_phaseOf 17 = .ok (.getfield 340, 3) := by decide +kernel
theorem dX12_phaseOf_20 : decode cX12_phaseOf 20 = .ok (.aload_n 0, 1) := by decide +kernel
theorem dX12_phaseOf_21 : decode cX12_phaseOf 21 = .ok (.getfield 113, 3) := by decide +kernel
theorem dX12_phaseOf_24 : decode cX12_phaseOf 24 = .ok (.iload_n 1, 1) := by decide +kernel
theorem dX12_phaseOf_25 : decode cX12_phaseOf 25 = .ok (.iaload, 1) := by decide +kernel
theorem dX12_phaseOf_26 : decode cX12_phaseOf 26 = .ok (.aload_n 0, 1) := by decide +kernel
theorem dX12_phaseOf_27 : decode cX12_phaseOf 27 = .ok (.getfield 131, 3) := by decide +kernel
theorem dX12_phaseOf_30 : decode cX12_phaseOf 30 = .ok (.iload_n 2, 1) := by decide +kernel
theorem dX12_phaseOf_31 : decode cX12_phaseOf 31 = .ok (.iaload, 1) := by decide +kernel
theorem dX12_phaseOf_32 : decode cX12_phaseOf 32 = .ok (.invokevirtual 356, 3) := by decide +kernel
theorem dX12_phaseOf_35 : decode cX12_phaseOf 35 = .ok (.aload_n 0, 1) := by decide +kernel
theorem dX12_phaseOf_36 : decode cX12_phaseOf 36 = .ok (.getfield 134, 3) := by decide +kernel
theorem dX12_phaseOf_39 : decode cX12_phaseOf 39 = .ok (.iload_n 2, 1) := by decide +kernel
theorem dX12_phaseOf_40 : decode cX12_phaseOf 40 = .ok (.iaload, 1) := by decide +kernel
theorem dX12_phaseOf_41 : decode cX12_phaseOf 41 = .ok (.iadd, 1) := by decide +kernel
theorem dX12_phaseOf_42 : decode cX12_phaseOf 42 = .ok (.aload_n 0, 1) := by decide +kernel
theorem dX12_phaseOf_43 : decode cX12_phaseOf 43 = .ok (.getfield 103, 3) := by decide +kernel
theorem dX12_phaseOf_46 : decode cX12_phaseOf 46 = .ok (.isub, 1) := by decide +kernel
theorem dX12_phaseOf_47 : decode cX12_phaseOf 47 = .ok (.aload_n 0, 1) := by decide +kernel
theorem dX12_phaseOf_48 : decode cX12_phaseOf 48 = .ok (.getfield 88, 3) := by decide +kernel
theorem dX12_phaseOf_51 : decode cX12_phaseOf 51 = .ok (.aload_n 0, 1) := by decide +kernel
theorem dX12_phaseOf_52 : decode cX12_phaseOf 52 = .ok (.getfield 340, 3) := by decide +kernel
theorem dX12_phaseOf_55 : decode cX12_phaseOf 55 = .ok (.iaload, 1) := by decide +kernel
theorem dX12_phaseOf_56 : decode cX12_phaseOf 56 = .ok (.invokestatic 359, 3) := by decide +kernel
theorem dX12_phaseOf_59 : decode cX12_phaseOf 59 = .ok (.ireturn, 1) := by decide +kernel
theorem dX12_strip_0 : decode cX12_strip 0 = .ok (.aload_n 0, 1) := by decide +kernel
theorem dX12_strip_1 : decode cX12_strip 1 = .ok (.iload_n 1, 1) := by decide +kernel
theorem dX12_strip_2 : decode cX12_strip 2 = .ok (.invokevirtual 362, 3) := by decide +kernel
theorem dX12_strip_5 : decode cX12_strip 5 = .ok (.ifCond .ne 5, 3) := by decide +kernel
theorem dX12_strip_8 : decode cX12_strip 8 = .ok (.iconst (-1), 1) := by decide +kernel
theorem dX12_strip_9 : decode cX12_strip 9 = .ok (.ireturn, 1) := by decide +kernel
theorem dX12_strip_10 : decode cX12_strip 10 = .ok (.aload_n 0, 1) := by decide +kernel
theorem dX12_strip_11 : decode cX12_strip 11 = .ok (.iload_n 1, 1) := by decide +kernel
theorem dX12_strip_12 : decode cX12_strip 12 = .ok (.invokevirtual 369, 3) := by decide +kernel
theorem dX12_strip_15 : decode cX12_strip 15 = .ok (.iload_n 2, 1) := by decide +kernel
theorem dX12_strip_16 : decode cX12_strip 16 = .ok (.i2l, 1) := by decide +kernel
theorem dX12_strip_17 : decode cX12_strip 17 = .ok (.lconst 0, 1) := by decide +kernel
theorem dX12_strip_18 : decode cX12_strip 18 = .ok (.aload_n 0, 1) := by decide +kernel
theorem dX12_strip_19 : decode cX12_strip 19 = .ok (.getfield 343, 3) := by decide +kernel
theorem dX12_strip_22 : decode cX12_strip 22 = .ok (.iconst 1, 1) := by decide +kernel
theorem dX12_strip_23 : decode cX12_strip 23 = .ok (.isub, 1) := by decide +kernel
theorem dX12_strip_24 : decode cX12_strip 24 = .ok (.i2l, 1) := by decide +kernel
theorem dX12_strip_25 : decode cX12_strip 25 = .ok (.invokestatic 205, 3) := by decide +kernel
theorem dX12_strip_28 : decode cX12_strip 28 = .ok (.ifCond .ne 5, 3) := by decide +kernel
theorem dX12_strip_31 : decode cX12_strip 31 = .ok (.iconst (-1), 1) := by decide +kernel
theorem dX12_strip_32 : decode cX12_strip 32 = .ok (.ireturn, 1) := by decide +kernel
theorem dX12_strip_33 : decode cX12_strip 33 = .ok (.iload_n 3, 1) := by decide +kernel
theorem dX12_strip_34 : decode cX12_strip 34 = .ok (.tableswitch 93 0 5 #[38, 45, 56, 63, 79, 86], 38) := by decide +kernel
theorem dX12_strip_72 : decode cX12_strip 72 = .ok (.aload_n 0, 1) := by decide +kernel
theorem dX12_strip_73 : decode cX12_strip 73 = .ok (.getfield 119, 3) := by decide +kernel
theorem dX12_strip_76 : decode cX12_strip 76 = .ok (.iload_n 2, 1) := by decide +kernel
theorem dX12_strip_77 : decode cX12_strip 77 = .ok (.iaload, 1) := by decide +kernel
theorem dX12_strip_78 : decode cX12_strip 78 = .ok (.ireturn, 1) := by decide +kernel
theorem dX12_strip_79 : decode cX12_strip 79 = .ok (.aload_n 0, 1) := by decide +kernel
theorem dX12_strip_80 : decode cX12_strip 80 = .ok (.iload_n 1, 1) := by decide +kernel
theorem dX12_strip_81 : decode cX12_strip 81 = .ok (.aload_n 0, 1) := by decide +kernel
theorem dX12_strip_82 : decode cX12_strip 82 = .ok (.getfield 340, 3) := by decide +kernel
theorem dX12_strip_85 : decode cX12_strip 85 = .ok (.iload_n 2, 1) := by decide +kernel
theorem dX12_strip_86 : decode cX12_strip 86 = .ok (.invokevirtual 346, 3) := by decide +kernel
theorem dX12_strip_89 : decode cX12_strip 89 = .ok (.ireturn, 1) := by decide +kernel
theorem dX12_strip_90 : decode cX12_strip 90 = .ok (.aload_n 0, 1) := by decide +kernel
theorem dX12_strip_91 : decode cX12_strip 91 = .ok (.getfield 122, 3) := by decide +kernel
theorem dX12_strip_94 : decode cX12_strip 94 = .ok (.iload_n 2, 1) := by decide +kernel
theorem dX12_strip_95 : decode cX12_strip 95 = .ok (.iaload, 1) := by decide +kernel
theorem dX12_strip_96 : decode cX12_strip 96 = .ok (.ireturn, 1) := by decide +kernel
theorem dX12_strip_97 : decode cX12_strip 97 = .ok (.aload_n 0, 1) := by decide +kernel
theorem dX12_strip_98 : decode cX12_strip 98 = .ok (.aload_n 0, 1) := by decide +kernel
theorem dX12_strip_99 : decode cX12_strip 99 = .ok (.getfield 340, 3) := by decide +kernel
theorem dX12_strip_102 : decode cX12_strip 102 = .ok (.aload_n 0, 1) := by decide +kernel
theorem dX12_strip_103 : decode cX12_strip 103 = .ok (.getfield 113, 3) := by decide +kernel
theorem dX12_strip_106 : decode cX12_strip 106 = .ok (.iload_n 1, 1) := by decide +kernel
theorem dX12_strip_107 : decode cX12_strip 107 = .ok (.iaload, 1) := by decide +kernel
theorem dX12_strip_108 : decode cX12_strip 108 = .ok (.iload_n 2, 1) := by decide +kernel
theorem dX12_strip_109 : decode cX12_strip 109 = .ok (.invokevirtual 356, 3) := by decide +kernel
theorem dX12_strip_112 : decode cX12_strip 112 = .ok (.ireturn, 1) := by decide +kernel
theorem dX12_strip_113 : decode cX12_strip 113 = .ok (.aload_n 0, 1) := by decide +kernel
theorem dX12_strip_114 : decode cX12_strip 114 = .ok (.getfield 128, 3) := by decide +kernel
theorem dX12_strip_117 : decode cX12_strip 117 = .ok (.iload_n 2, 1) := by decide +kernel
theorem dX12_strip_118 : decode cX12_strip 118 = .ok (.iaload, 1) := by decide +kernel
theorem dX12_strip_119 : decode cX12_strip 119 = .ok (.ireturn, 1) := by decide +kernel
theorem dX12_strip_120 : decode cX12_strip 120 = .ok (.aload_n 0, 1) := by decide +kernel
theorem dX12_strip_121 : decode cX12_strip 121 = .ok (.getfield 125, 3) := by decide +kernel
theorem dX12_strip_124 : decode cX12_strip 124 = .ok (.iload_n 2, 1) := by decide +kernel
theorem dX12_strip_125 : decode cX12_strip 125 = .ok (.iaload, 1) := by decide +kernel
theorem dX12_strip_126 : decode cX12_strip 126 = .ok (.ireturn, 1) := by decide +kernel
theorem dX12_strip_127 : decode cX12_strip 127 = .ok (.iconst (-1), 1) := by decide +kernel
theorem dX12_strip_128 : decode cX12_strip 128 = .ok (.ireturn, 1) := by decide +kernel
theorem dX12_placeIn_0 : decode cX12_placeIn 0 = .ok (.aload_n 0, 1) := by decide +kernel
theorem dX12_placeIn_1 : decode cX12_placeIn 1 = .ok (.getfield 91, 3) := by decide +kernel
theorem dX12_placeIn_4 : decode cX12_placeIn 4 = .ok (.aload_n 0, 1) := by decide +kernel
theorem dX12_placeIn_5 : decode cX12_placeIn 5 = .ok (.getfield 340, 3) := by decide +kernel
theorem dX12_placeIn_8 : decode cX12_placeIn 8 = .ok (.iaload, 1) := by decide +kernel
theorem dX12_placeIn_9 : decode cX12_placeIn 9 = .ok (.iconst 2, 1) := by decide +kernel
theorem dX12_placeIn_10 : decode cX12_placeIn 10 = .ok (.if_icmp .ne 7, 3) := by decide +kernel
theorem dX12_placeIn_13 : decode cX12_placeIn 13 = .ok (.iload_n 1, 1) := by decide +kernel
theorem dX12_placeIn_14 : decode cX12_placeIn 14 = .ok (.goto 20, 3) := by decide +kernel
theorem dX12_placeIn_17 : decode cX12_placeIn 17 = .ok (.iload_n 1, 1) := by decide +kernel
theorem dX12_placeIn_18 : decode cX12_placeIn 18 = .ok (.iload_n 2, 1) := by decide +kernel
theorem dX12_placeIn_19 : decode cX12_placeIn 19 = .ok (.iload_n 1, 1) := by decide +kernel
theorem dX12_placeIn_20 : decode cX12_placeIn 20 = .ok (.isub, 1) := by decide +kernel
theorem dX12_placeIn_21 : decode cX12_placeIn 21 = .ok (.aload_n 0, 1) := by decide +kernel
theorem dX12_placeIn_22 : decode cX12_placeIn 22 = .ok (.getfield 88, 3) := by decide +kernel
theorem dX12_placeIn_25 : decode cX12_placeIn 25 = .ok (.aload_n 0, 1) := by decide +kernel
theorem dX12_placeIn_26 : decode cX12_placeIn 26 = .ok (.getfield 340, 3) := by decide +kernel
theorem dX12_placeIn_29 : decode cX12_placeIn 29 = .ok (.iaload, 1) := by decide +kernel
theorem dX12_placeIn_30 : decode cX12_placeIn 30 = .ok (.invokestatic 359, 3) := by decide +kernel
theorem dX12_placeIn_33 : decode cX12_placeIn 33 = .ok (.iadd, 1) := by decide +kernel
theorem dX12_placeIn_34 : decode cX12_placeIn 34 = .ok (.ireturn, 1) := by decide +kernel
theorem dX12_cutsFrom_0 : decode cX12_cutsFrom 0 = .ok (.aload_n 0, 1) := by decide +kernel
theorem dX12_cutsFrom_1 : decode cX12_cutsFrom 1 = .ok (.iload_n 1, 1) := by decide +kernel
theorem dX12_cutsFrom_2 : decode cX12_cutsFrom 2 = .ok (.iload_n 2, 1) := by decide +kernel
theorem dX12_cutsFrom_3 : decode cX12_cutsFrom 3 = .ok (.invokevirtual 372, 3) := by decide +kernel
theorem dX12_cutsFrom_6 : decode cX12_cutsFrom 6 = .ok (.istore_n 3, 1) := by decide +kernel
theorem dX12_cutsFrom_7 : decode cX12_cutsFrom 7 = .ok (.iconst 0, 1) := by decide +kernel
theorem dX12_cutsFrom_8 : decode cX12_cutsFrom 8 = .ok (.istore 4, 2) := by decide +kernel
theorem dX12_cutsFrom_10 : decode cX12_cutsFrom 10 = .ok (.iload 4, 2) := by decide +kernel
theorem dX12_cutsFrom_12 : decode cX12_cutsFrom 12 = .ok (.aload_n 0, 1) := by decide +kernel
theorem dX12_cutsFrom_13 : decode cX12_cutsFrom 13 = .ok (.getfield 375, 3) := by decide +kernel
theorem dX12_cutsFrom_16 : decode cX12_cutsFrom 16 = .ok (.if_icmp .gt 107, 3) := by decide +kernel
theorem dX12_cutsFrom_19 : decode cX12_cutsFrom 19 = .ok (.aload_n 0, 1) := by decide +kernel
theorem dX12_cutsFrom_20 : decode cX12_cutsFrom 20 = .ok (.iload 4, 2) := by decide +kernel
theorem dX12_cutsFrom_22 : decode cX12_cutsFrom 22 = .ok (.aload_n 0, 1) := by decide +kernel
theorem dX12_cutsFrom_23 : decode cX12_cutsFrom 23 = .ok (.getfield 375, 3) := by decide +kernel
theorem dX12_cutsFrom_26 : decode cX12_cutsFrom 26 = .ok (.if_icmp .ne 7, 3) := by decide +kernel
theorem dX12_cutsFrom_29 : decode cX12_cutsFrom 29 = .ok (.iconst 0, 1) := by decide +kernel
theorem dX12_cutsFrom_30 : decode cX12_cutsFrom 30 = .ok (.goto 10, 3) := by decide +kernel
theorem dX12_cutsFrom_33 : decode cX12_cutsFrom 33 = .ok (.aload_n 0, 1) := by decide +kernel
theorem dX12_cutsFrom_34 : decode cX12_cutsFrom 34 = .ok (.getfield 146, 3) := by decide +kernel
theorem dX12_cutsFrom_37 : decode cX12_cutsFrom 37 = .ok (.iload 4, 2) := by decide +kernel
theorem dX12_cutsFrom_39 : decode cX12_cutsFrom 39 = .ok (.iaload, 1) := by decide +kernel
theorem dX12_cutsFrom_40 : decode cX12_cutsFrom 40 = .ok (.iload_n 3, 1) := by decide +kernel
theorem dX12_cutsFrom_41 : decode cX12_cutsFrom 41 = .ok (.invokevirtual 378, 3) := by decide +kernel
theorem dX12_cutsFrom_44 : decode cX12_cutsFrom 44 = .ok (.istore 5, 2) := by decide +kernel
theorem dX12_cutsFrom_46 : decode cX12_cutsFrom 46 = .ok (.iload 5, 2) := by decide +kernel
theorem dX12_cutsFrom_48 : decode cX12_cutsFrom 48 = .ok (.aload_n 0, 1) := by decide +kernel
theorem dX12_cutsFrom_49 : decode cX12_cutsFrom 49 = .ok (.iload_n 2, 1) := by decide +kernel
theorem dX12_cutsFrom_50 : decode cX12_cutsFrom 50 = .ok (.invokevirtual 381, 3) := by decide +kernel
theorem dX12_cutsFrom_53 : decode cX12_cutsFrom 53 = .ok (.iadd, 1) := by decide +kernel
theorem dX12_cutsFrom_54 : decode cX12_cutsFrom 54 = .ok (.aload_n 0, 1) := by decide +kernel
theorem dX12_cutsFrom_55 : decode cX12_cutsFrom 55 = .ok (.getfield 94, 3) := by decide +kernel
theorem dX12_cutsFrom_58 : decode cX12_cutsFrom 58 = .ok (.aload_n 0, 1) := by decide +kernel
theorem dX12_cutsFrom_59 : decode cX12_cutsFrom 59 = .ok (.getfield 340, 3) := by decide +kernel
theorem dX12_cutsFrom_62 : decode cX12_cutsFrom 62 = .ok (.iaload, 1) := by decide +kernel
theorem dX12_cutsFrom_63 : decode cX12_cutsFrom 63 = .ok (.if_icmp .le 6, 3) := by decide +kernel
theorem dX12_cutsFrom_66 : decode cX12_cutsFrom 66 = .ok (.goto 51, 3) := by decide +kernel
theorem dX12_cutsFrom_69 : decode cX12_cutsFrom 69 = .ok (.aload_n 0, 1) := by decide +kernel
theorem dX12_cutsFrom_70 : decode cX12_cutsFrom 70 = .ok (.getfield 146, 3) := by decide +kernel
theorem dX12_cutsFrom_73 : decode cX12_cutsFrom 73 = .ok (.iload 4, 2) := by decide +kernel
theorem dX12_cutsFrom_75 : decode cX12_cutsFrom 75 = .ok (.iload 5, 2) := by decide +kernel
theorem dX12_cutsFrom_77 : decode cX12_cutsFrom 77 = .ok (.aload_n 0, 1) := by decide +kernel
theorem dX12_cutsFrom_78 : decode cX12_cutsFrom 78 = .ok (.iload_n 2, 1) := by decide +kernel
theorem dX12_cutsFrom_79 : decode cX12_cutsFrom 79 = .ok (.invokevirtual 381, 3) := by decide +kernel
theorem dX12_cutsFrom_82 : decode cX12_cutsFrom 82 = .ok (.iadd, 1) := by decide +kernel
theorem dX12_cutsFrom_83 : decode cX12_cutsFrom 83 = .ok (.iastore, 1) := by decide +kernel
theorem dX12_cutsFrom_84 : decode cX12_cutsFrom 84 = .ok (.aload_n 0, 1) := by decide +kernel
theorem dX12_cutsFrom_85 : decode cX12_cutsFrom 85 = .ok (.getfield 140, 3) := by decide +kernel
theorem dX12_cutsFrom_88 : decode cX12_cutsFrom 88 = .ok (.iload_n 2, 1) := by decide +kernel
theorem dX12_cutsFrom_89 : decode cX12_cutsFrom 89 = .ok (.iload 4, 2) := by decide +kernel
theorem dX12_cutsFrom_91 : decode cX12_cutsFrom 91 = .ok (.iastore, 1) := by decide +kernel
theorem dX12_cutsFrom_92 : decode cX12_cutsFrom 92 = .ok (.aload_n 0, 1) := by decide +kernel
theorem dX12_cutsFrom_93 : decode cX12_cutsFrom 93 = .ok (.getfield 143, 3) := by decide +kernel
theorem dX12_cutsFrom_96 : decode cX12_cutsFrom 96 = .ok (.iload_n 2, 1) := by decide +kernel
theorem dX12_cutsFrom_97 : decode cX12_cutsFrom 97 = .ok (.iload 5, 2) := by decide +kernel
theorem dX12_cutsFrom_99 : decode cX12_cutsFrom 99 = .ok (.iastore, 1) := by decide +kernel
theorem dX12_cutsFrom_100 : decode cX12_cutsFrom 100 = .ok (.aload_n 0, 1) := by decide +kernel
theorem dX12_cutsFrom_101 : decode cX12_cutsFrom 101 = .ok (.aload_n 0, 1) := by decide +kernel
theorem dX12_cutsFrom_102 : decode cX12_cutsFrom 102 = .ok (.getfield 375, 3) := by decide +kernel
theorem dX12_cutsFrom_105 : decode cX12_cutsFrom 105 = .ok (.iload 4, 2) := by decide +kernel
theorem dX12_cutsFrom_107 : decode cX12_cutsFrom 107 = .ok (.iconst 1, 1) := by decide +kernel
theorem dX12_cutsFrom_108 : decode cX12_cutsFrom 108 = .ok (.iadd, 1) := by decide +kernel
theorem dX12_cutsFrom_109 : decode cX12_cutsFrom 109 = .ok (.invokestatic 327, 3) := by decide +kernel
theorem dX12_cutsFrom_112 : decode cX12_cutsFrom 112 = .ok (.putfield 375, 3) := by decide +kernel
theorem dX12_cutsFrom_115 : decode cX12_cutsFrom 115 = .ok (.iconst 1, 1) := by decide +kernel
theorem dX12_cutsFrom_116 : decode cX12_cutsFrom 116 = .ok (.ireturn, 1) := by decide +kernel
theorem dX12_cutsFrom_117 : decode cX12_cutsFrom 117 = .ok (.iinc 4 1, 3) := by decide +kernel
theorem dX12_cutsFrom_120 : decode cX12_cutsFrom 120 = .ok (.goto (-110), 3) := by decide +kernel
theorem dX12_cutsFrom_123 : decode cX12_cutsFrom 123 = .ok (.iconst 0, 1) := by decide +kernel
theorem dX12_cutsFrom_124 : decode cX12_cutsFrom 124 = .ok (.ireturn, 1) := by decide +kernel
theorem dX12_fitsAll_0 : decode cX12_fitsAll 0 = .ok (.aload_n 0, 1) := by decide +kernel
theorem dX12_fitsAll_1 : decode cX12_fitsAll 1 = .ok (.iconst 0, 1) := by decide +kernel
theorem dX12_fitsAll_2 : decode cX12_fitsAll 2 = .ok (.putfield 375, 3) := by decide +kernel
theorem dX12_fitsAll_5 : decode cX12_fitsAll 5 = .ok (.iconst 0, 1) := by decide +kernel
theorem dX12_fitsAll_6 : decode cX12_fitsAll 6 = .ok (.istore_n 2, 1) := by decide +kernel
theorem dX12_fitsAll_7 : decode cX12_fitsAll 7 = .ok (.iload_n 2, 1) := by decide +kernel
theorem dX12_fitsAll_8 : decode cX12_fitsAll 8 = .ok (.aload_n 0, 1) := by decide +kernel
theorem dX12_fitsAll_9 : decode cX12_fitsAll 9 = .ok (.getfield 333, 3) := by decide +kernel
theorem dX12_fitsAll_12 : decode cX12_fitsAll 12 = .ok (.if_icmp .ge 20, 3) := by decide +kernel
theorem dX12_fitsAll_15 : decode cX12_fitsAll 15 = .ok (.aload_n 0, 1) := by decide +kernel
theorem dX12_fitsAll_16 : decode cX12_fitsAll 16 = .ok (.iload_n 1, 1) := by decide +kernel
theorem dX12_fitsAll_17 : decode cX12_fitsAll 17 = .ok (.iload_n 2, 1) := by decide +kernel
theorem dX12_fitsAll_18 : decode cX12_fitsAll 18 = .ok (.invokevirtual 385, 3) := by decide +kernel
theorem dX12_fitsAll_21 : decode cX12_fitsAll 21 = .ok (.ifCond .ne 5, 3) := by decide +kernel
theorem dX12_fitsAll_24 : decode cX12_fitsAll 24 = .ok (.iconst 0, 1) := by decide +kernel
theorem dX12_fitsAll_25 : decode cX12_fitsAll 25 = .ok (.ireturn, 1) := by decide +kernel
theorem dX12_fitsAll_26 : decode cX12_fitsAll 26 = .ok (.iinc 2 1, 3) := by decide +kernel
theorem dX12_fitsAll_29 : decode cX12_fitsAll 29 = .ok (.goto (-22), 3) := by decide +kernel
theorem dX12_fitsAll_32 : decode cX12_fitsAll 32 = .ok (.iconst 1, 1) := by decide +kernel
theorem dX12_fitsAll_33 : decode cX12_fitsAll 33 = .ok (.ireturn, 1) := by decide +kernel
theorem dX12_piece_0 : decode cX12_piece 0 = .ok (.aload_n 0, 1) := by decide +kernel
theorem dX12_piece_1 : decode cX12_piece 1 = .ok (.iload_n 1, 1) := by decide +kernel
theorem dX12_piece_2 : decode cX12_piece 2 = .ok (.invokevirtual 362, 3) := by decide +kernel
theorem dX12_piece_5 : decode cX12_piece 5 = .ok (.ifCond .ne 5, 3) := by decide +kernel
theorem dX12_piece_8 : decode cX12_piece 8 = .ok (.iconst (-1), 1) := by decide +kernel
theorem dX12_piece_9 : decode cX12_piece 9 = .ok (.ireturn, 1) := by decide +kernel
theorem dX12_piece_10 : decode cX12_piece 10 = .ok (.aload_n 0, 1) := by decide +kernel
theorem dX12_piece_11 : decode cX12_piece 11 = .ok (.iload_n 1, 1) := by decide +kernel
theorem dX12_piece_12 : decode cX12_piece 12 = .ok (.invokevirtual 369, 3) := by decide +kernel
theorem dX12_piece_15 : decode cX12_piece 15 = .ok (.iload_n 2, 1) := by decide +kernel
theorem dX12_piece_16 : decode cX12_piece 16 = .ok (.i2l, 1) := by decide +kernel
theorem dX12_piece_17 : decode cX12_piece 17 = .ok (.lconst 0, 1) := by decide +kernel
theorem dX12_piece_18 : decode cX12_piece 18 = .ok (.aload_n 0, 1) := by decide +kernel
theorem dX12_piece_19 : decode cX12_piece 19 = .ok (.getfield 333, 3) := by decide +kernel
theorem dX12_piece_22 : decode cX12_piece 22 = .ok (.iconst 1, 1) := by decide +kernel
theorem dX12_piece_23 : decode cX12_piece 23 = .ok (.isub, 1) := by decide +kernel
theorem dX12_piece_24 : decode cX12_piece 24 = .ok (.i2l, 1) := by decide +kernel
theorem dX12_piece_25 : decode cX12_piece 25 = .ok (.invokestatic 205, 3) := by decide +kernel
theorem dX12_piece_28 : decode cX12_piece 28 = .ok (.ifCond .eq 15, 3) := by decide +kernel
theorem dX12_piece_31 : decode cX12_piece 31 = .ok (.iload_n 3, 1) := by decide +kernel
theorem dX12_piece_32 : decode cX12_piece 32 = .ok (.i2l, 1) := by decide +kernel
theorem dX12_piece_33 : decode cX12_piece 33 = .ok (.lconst 0, 1) := by decide +kernel
theorem dX12_piece_34 : decode cX12_piece 34 = .ok (.ldc2_w 388, 3) := by decide +kernel
theorem dX12_piece_37 : decode cX12_piece 37 = .ok (.invokestatic 205, 3) := by decide +kernel
theorem dX12_piece_40 : decode cX12_piece 40 = .ok (.ifCond .ne 5, 3) := by decide +kernel
theorem dX12_piece_43 : decode cX12_piece 43 = .ok (.iconst (-1), 1) := by decide +kernel
theorem dX12_piece_44 : decode cX12_piece 44 = .ok (.ireturn, 1) := by decide +kernel
theorem dX12_piece_45 : decode cX12_piece 45 = .ok (.iload_n 3, 1) := by decide +kernel
theorem dX12_piece_46 : decode cX12_piece 46 = .ok (.iconst 4, 1) := by decide +kernel
theorem dX12_piece_47 : decode cX12_piece 47 = .ok (.if_icmp .le 36, 3) := by decide +kernel
theorem dX12_piece_50 : decode cX12_piece 50 = .ok (.aload_n 0, 1) := by decide +kernel
theorem dX12_piece_51 : decode cX12_piece 51 = .ok (.iload_n 1, 1) := by decide +kernel
theorem dX12_piece_52 : decode cX12_piece 52 = .ok (.invokevirtual 390, 3) := by decide +kernel
theorem dX12_piece_55 : decode cX12_piece 55 = .ok (.ifCond .ne 7, 3) := by decide +kernel
theorem dX12_piece_58 : decode cX12_piece 58 = .ok (.iconst (-1), 1) := by decide +kernel
theorem dX12_piece_59 : decode cX12_piece 59 = .ok (.goto 23, 3) := by decide +kernel
theorem dX12_piece_62 : decode cX12_piece 62 = .ok (.iload_n 3, 1) := by decide +kernel
theorem dX12_piece_63 : decode cX12_piece 63 = .ok (.iconst 5, 1) := by decide +kernel
theorem dX12_piece_64 : decode cX12_piece 64 = .ok (.if_icmp .ne 12, 3) := by decide +kernel
theorem dX12_piece_67 : decode cX12_piece 67 = .ok (.aload_n 0, 1) := by decide +kernel
theorem dX12_piece_68 : decode cX12_piece 68 = .ok (.getfield 140, 3) := by decide +kernel
theorem dX12_piece_71 : decode cX12_piece 71 = .ok (.iload_n 2, 1) := by decide +kernel
theorem dX12_piece_72 : decode cX12_piece 72 = .ok (.iaload, 1) := by decide +kernel
theorem dX12_piece_73 : decode cX12_piece 73 = .ok (.goto 9, 3) := by decide +kernel
theorem dX12_piece_76 : decode cX12_piece 76 = .ok (.aload_n 0, 1) := by decide +kernel
theorem dX12_piece_77 : decode cX12_piece 77 = .ok (.getfield 143, 3) := by decide +kernel
theorem dX12_piece_80 : decode cX12_piece 80 = .ok (.iload_n 2, 1) := by decide +kernel
theorem dX12_piece_81 : decode cX12_piece 81 = .ok (.iaload, 1) := by decide +kernel
theorem dX12_piece_82 : decode cX12_piece 82 = .ok (.ireturn, 1) := by decide +kernel
theorem dX12_piece_83 : decode cX12_piece 83 = .ok (.iload_n 3, 1) := by decide +kernel
theorem dX12_piece_84 : decode cX12_piece 84 = .ok (.ifCond .ne 12, 3) := by decide +kernel
theorem dX12_piece_87 : decode cX12_piece 87 = .ok (.aload_n 0, 1) := by decide +kernel
theorem dX12_piece_88 : decode cX12_piece 88 = .ok (.getfield 131, 3) := by decide +kernel
theorem dX12_piece_91 : decode cX12_piece 91 = .ok (.iload_n 2, 1) := by decide +kernel
theorem dX12_piece_92 : decode cX12_piece 92 = .ok (.iaload, 1) := by decide +kernel
theorem dX12_piece_93 : decode cX12_piece 93 = .ok (.goto 50, 3) := by decide +kernel
theorem dX12_piece_96 : decode cX12_piece 96 = .ok (.iload_n 3, 1) := by decide +kernel
theorem dX12_piece_97 : decode cX12_piece 97 = .ok (.iconst 1, 1) := by decide +kernel
theorem dX12_piece_98 : decode cX12_piece 98 = .ok (.if_icmp .ne 12, 3) := by decide +kernel
theorem dX12_piece_101 : decode cX12_piece 101 = .ok (.aload_n 0, 1) := by decide +kernel
theorem dX12_piece_102 : decode cX12_piece 102 = .ok (.getfield 134, 3) := by decide +kernel
theorem dX12_piece_105 : decode cX12_piece 105 = .ok (.iload_n 2, 1) := by decide +kernel
theorem dX12_piece_106 : decode cX12_piece 106 = .ok (.iaload, 1) := by decide +kernel
theorem dX12_piece_107 : decode cX12_piece 107 = .ok (.goto 36, 3) := by decide +kernel
theorem dX12_piece_110 : decode cX12_piece 110 = .ok (.iload_n 3, 1) := by decide +kernel
theorem dX12_piece_111 : decode cX12_piece 111 = .ok (.iconst 2, 1) := by decide +kernel
theorem dX12_piece_112 : decode cX12_piece 112 = .ok (.if_icmp .ne 12, 3) := by decide +kernel
theorem dX12_piece_115 : decode cX12_piece 115 = .ok (.aload_n 0, 1) := by decide +kernel
theorem dX12_piece_116 : decode cX12_piece 116 = .ok (.getfield 137, 3) := by decide +kernel
theorem dX12_piece_119 : decode cX12_piece 119 = .ok (.iload_n 2, 1) := by decide +kernel
theorem dX12_piece_120 : decode cX12_piece 120 = .ok (.iaload, 1) := by decide +kernel
theorem dX12_piece_121 : decode cX12_piece 121 = .ok (.goto 22, 3) := by decide +kernel
theorem dX12_piece_124 : decode cX12_piece 124 = .ok (.iload_n 3, 1) := by decide +kernel
theorem dX12_piece_125 : decode cX12_piece 125 = .ok (.iconst 3, 1) := by decide +kernel
theorem dX12_piece_126 : decode cX12_piece 126 = .ok (.if_icmp .ne 11, 3) := by decide +kernel
theorem dX12_piece_129 : decode cX12_piece 129 = .ok (.aload_n 0, 1) := by decide +kernel
theorem dX12_piece_130 : decode cX12_piece 130 = .ok (.iload_n 2, 1) := by decide +kernel
theorem dX12_piece_131 : decode cX12_piece 131 = .ok (.invokevirtual 381, 3) := by decide +kernel
theorem dX12_piece_134 : decode cX12_piece 134 = .ok (.goto 9, 3) := by decide +kernel
theorem dX12_piece_137 : decode cX12_piece 137 = .ok (.aload_n 0, 1) := by decide +kernel
theorem dX12_piece_138 : decode cX12_piece 138 = .ok (.iload_n 1, 1) := by decide +kernel
theorem dX12_piece_139 : decode cX12_piece 139 = .ok (.iload_n 2, 1) := by decide +kernel
theorem dX12_piece_140 : decode cX12_piece 140 = .ok (.invokevirtual 372, 3) := by decide +kernel
theorem dX12_piece_143 : decode cX12_piece 143 = .ok (.ireturn, 1) := by decide +kernel
theorem dX12_fewest_0 : decode cX12_fewest 0 = .ok (.iconst 0, 1) := by decide +kernel
theorem dX12_fewest_1 : decode cX12_fewest 1 = .ok (.istore_n 2, 1) := by decide +kernel
theorem dX12_fewest_2 : decode cX12_fewest 2 = .ok (.iload_n 2, 1) := by decide +kernel
theorem dX12_fewest_3 : decode cX12_fewest 3 = .ok (.iconst 1, 1) := by decide +kernel
theorem dX12_fewest_4 : decode cX12_fewest 4 = .ok (.aload_n 0, 1) := by decide +kernel
theorem dX12_fewest_5 : decode cX12_fewest 5 = .ok (.getfield 333, 3) := by decide +kernel
theorem dX12_fewest_8 : decode cX12_fewest 8 = .ok (.ishl, 1) := by decide +kernel
theorem dX12_fewest_9 : decode cX12_fewest 9 = .ok (.if_icmp .ge 26, 3) := by decide +kernel
theorem dX12_fewest_12 : decode cX12_fewest 12 = .ok (.aload_n 0, 1) := by decide +kernel
theorem dX12_fewest_13 : decode cX12_fewest 13 = .ok (.getfield 149, 3) := by decide +kernel
theorem dX12_fewest_16 : decode cX12_fewest 16 = .ok (.iload_n 2, 1) := by decide +kernel
theorem dX12_fewest_17 : decode cX12_fewest 17 = .ok (.iload_n 2, 1) := by decide +kernel
theorem dX12_fewest_18 : decode cX12_fewest 18 = .ok (.ifCond .ne 9, 3) := by decide +kernel
theorem dX12_fewest_21 : decode cX12_fewest 21 = .ok (.sipush 10000, 3) := by decide +kernel
theorem dX12_fewest_24 : decode cX12_fewest 24 = .ok (.goto 4, 3) := by decide +kernel
theorem dX12_fewest_27 : decode cX12_fewest 27 = .ok (.iconst (-1), 1) := by decide +kernel
theorem dX12_fewest_28 : decode cX12_fewest 28 = .ok (.iastore, 1) := by decide +kernel
theorem dX12_fewest_29 : decode cX12_fewest 29 = .ok (.iinc 2 1, 3) := by decide +kernel
theorem dX12_fewest_32 : decode cX12_fewest 32 = .ok (.goto (-30), 3) := by decide +kernel
theorem dX12_fewest_35 : decode cX12_fewest 35 = .ok (.iconst 0, 1) := by decide +kernel
theorem dX12_fewest_36 : decode cX12_fewest 36 = .ok (.istore_n 2, 1) := by decide +kernel
theorem dX12_fewest_37 : decode cX12_fewest 37 = .ok (.iload_n 2, 1) := by decide +kernel
theorem dX12_fewest_38 : decode cX12_fewest 38 = .ok (.iconst 1, 1) := by decide +kernel
theorem dX12_fewest_39 : decode cX12_fewest 39 = .ok (.aload_n 0, 1) := by decide +kernel
theorem dX12_fewest_40 : decode cX12_fewest 40 = .ok (.getfield 333, 3) := by decide +kernel
theorem dX12_fewest_43 : decode cX12_fewest 43 = .ok (.ishl, 1) := by decide +kernel
theorem dX12_fewest_44 : decode cX12_fewest 44 = .ok (.if_icmp .ge 207, 3) := by decide +kernel
theorem dX12_fewest_47 : decode cX12_fewest 47 = .ok (.aload_n 0, 1) := by decide +kernel
theorem dX12_fewest_48 : decode cX12_fewest 48 = .ok (.getfield 149, 3) := by decide +kernel
theorem dX12_fewest_51 : decode cX12_fewest 51 = .ok (.iload_n 2, 1) := by decide +kernel
theorem dX12_fewest_52 : decode cX12_fewest 52 = .ok (.iaload, 1) := by decide +kernel
theorem dX12_fewest_53 : decode cX12_fewest 53 = .ok (.iconst (-1), 1) := by decide +kernel
theorem dX12_fewest_54 : decode cX12_fewest 54 = .ok (.if_icmp .ne 6, 3) := by decide +kernel
theorem dX12_fewest_57 : decode cX12_fewest 57 = .ok (.goto 188, 3) := by decide +kernel
theorem dX12_fewest_60 : decode cX12_fewest 60 = .ok (.iconst 0, 1) := by decide +kernel
theorem dX12_fewest_61 : decode cX12_fewest 61 = .ok (.istore_n 3, 1) := by decide +kernel
theorem dX12_fewest_62 : decode cX12_fewest 62 = .ok (.iload_n 3, 1) := by decide +kernel
theorem dX12_fewest_63 : decode cX12_fewest 63 = .ok (.aload_n 0, 1) := by decide +kernel
theorem dX12_fewest_64 : decode cX12_fewest 64 = .ok (.getfield 333, 3) := by decide +kernel
theorem dX12_fewest_67 : decode cX12_fewest 67 = .ok (.if_icmp .ge 178, 3) := by decide +kernel
theorem dX12_fewest_70 : decode cX12_fewest 70 = .ok (.iload_n 2, 1) := by decide +kernel
theorem dX12_fewest_71 : decode cX12_fewest 71 = .ok (.iload_n 3, 1) := by decide +kernel
theorem dX12_fewest_72 : decode cX12_fewest 72 = .ok (.ishr, 1) := by decide +kernel
theorem dX12_fewest_73 : decode cX12_fewest 73 = .ok (.iconst 1, 1) := by decide +kernel
theorem dX12_fewest_74 : decode cX12_fewest 74 = .ok (.iand, 1) := by decide +kernel
theorem dX12_fewest_75 : decode cX12_fewest 75 = .ok (.iconst 1, 1) := by decide +kernel
theorem dX12_fewest_76 : decode cX12_fewest 76 = .ok (.if_icmp .ne 6, 3) := by decide +kernel
theorem dX12_fewest_79 : decode cX12_fewest 79 = .ok (.goto 160, 3) := by decide +kernel
theorem dX12_fewest_82 : decode cX12_fewest 82 = .ok (.aload_n 0, 1) := by decide +kernel
theorem dX12_fewest_83 : decode cX12_fewest 83 = .ok (.iload_n 1, 1) := by decide +kernel
theorem dX12_fewest_84 : decode cX12_fewest 84 = .ok (.iload_n 3, 1) := by decide +kernel
theorem dX12_fewest_85 : decode cX12_fewest 85 = .ok (.invokevirtual 372, 3) := by decide +kernel
theorem dX12_fewest_88 : decode cX12_fewest 88 = .ok (.istore 4, 2) := by decide +kernel
theorem dX12_fewest_90 : decode cX12_fewest 90 = .ok (.aload_n 0, 1) := by decide +kernel
theorem dX12_fewest_91 : decode cX12_fewest 91 = .ok (.aload_n 0, 1) := by decide +kernel
theorem dX12_fewest_92 : decode cX12_fewest 92 = .ok (.getfield 149, 3) := by decide +kernel
theorem dX12_fewest_95 : decode cX12_fewest 95 = .ok (.iload_n 2, 1) := by decide +kernel
theorem dX12_fewest_96 : decode cX12_fewest 96 = .ok (.iaload, 1) := by decide +kernel
theorem dX12_fewest_97 : decode cX12_fewest 97 = .ok (.sipush 10000, 3) := by decide +kernel
theorem dX12_fewest_100 : decode cX12_fewest 100 = .ok (.irem, 1) := by decide +kernel
theorem dX12_fewest_101 : decode cX12_fewest 101 = .ok (.iload 4, 2) := by decide +kernel
theorem dX12_fewest_103 : decode cX12_fewest 103 = .ok (.invokevirtual 378, 3) := by decide +kernel
theorem dX12_fewest_106 : decode cX12_fewest 106 = .ok (.istore 5, 2) := by decide +kernel
theorem dX12_fewest_108 : decode cX12_fewest 108 = .ok (.iload 5, 2) := by decide +kernel
theorem dX12_fewest_110 : decode cX12_fewest 110 = .ok (.aload_n 0, 1) := by decide +kernel
theorem dX12_fewest_111 : decode cX12_fewest 111 = .ok (.iload_n 3, 1) := by decide +kernel
theorem dX12_fewest_112 : decode cX12_fewest 112 = .ok (.invokevirtual 381, 3) := by decide +kernel
theorem dX12_fewest_115 : decode cX12_fewest 115 = .ok (.iadd, 1) := by decide +kernel
theorem dX12_fewest_116 : decode cX12_fewest 116 = .ok (.aload_n 0, 1) := by decide +kernel
theorem dX12_fewest_117 : decode cX12_fewest 117 = .ok (.getfield 94, 3) := by decide +kernel
theorem dX12_fewest_120 : decode cX12_fewest 120 = .ok (.aload_n 0, 1) := by decide +kernel
theorem dX12_fewest_121 : decode cX12_fewest 121 = .ok (.getfield 340, 3) := by decide +kernel
theorem dX12_fewest_124 : decode cX12_fewest 124 = .ok (.iaload, 1) := by decide +kernel
theorem dX12_fewest_125 : decode cX12_fewest 125 = .ok (.if_icmp .gt 7, 3) := by decide +kernel
theorem dX12_fewest_128 : decode cX12_fewest 128 = .ok (.iconst 1, 1) := by decide +kernel
theorem dX12_fewest_129 : decode cX12_fewest 129 = .ok (.goto 4, 3) := by decide +kernel
theorem dX12_fewest_132 : decode cX12_fewest 132 = .ok (.iconst 0, 1) := by decide +kernel
theorem dX12_fewest_133 : decode cX12_fewest 133 = .ok (.istore 6, 2) := by decide +kernel
theorem dX12_fewest_135 : decode cX12_fewest 135 = .ok (.iload 6, 2) := by decide +kernel
theorem dX12_fewest_137 : decode cX12_fewest 137 = .ok (.ifCond .eq 29, 3) := by decide +kernel
theorem dX12_fewest_140 : decode cX12_fewest 140 = .ok (.aload_n 0, 1) := by decide +kernel
theorem dX12_fewest_141 : decode cX12_fewest 141 = .ok (.getfield 149, 3) := by decide +kernel
theorem dX12_fewest_144 : decode cX12_fewest 144 = .ok (.iload_n 2, 1) := by decide +kernel
theorem dX12_fewest_145 : decode cX12_fewest 145 = .ok (.iaload, 1) := by decide +kernel
theorem dX12_fewest_146 : decode cX12_fewest 146 = .ok (.sipush 10000, 3) := by decide +kernel
theorem dX12_fewest_149 : decode cX12_fewest 149 = .ok (.idiv, 1) := by decide +kernel
theorem dX12_fewest_150 : decode cX12_fewest 150 = .ok (.sipush 10000, 3) := by decide +kernel
theorem dX12_fewest_153 : decode cX12_fewest 153 = .ok (.imul, 1) := by decide +kernel
theorem dX12_fewest_154 : decode cX12_fewest 154 = .ok (.iload 5, 2) := by decide +kernel
theorem dX12_fewest_156 : decode cX12_fewest 156 = .ok (.iadd, 1) := by decide +kernel
theorem dX12_fewest_157 : decode cX12_fewest 157 = .ok (.aload_n 0, 1) := by decide +kernel
theorem dX12_fewest_158 : decode cX12_fewest 158 = .ok (.iload_n 3, 1) := by decide +kernel
