theorem dX4_readDoor_28 : decode cX4_readDoor 28 = .ok (.iload_n 1, 1) := by decide +kernel
theorem dX4_readDoor_29 : decode cX4_readDoor 29 = .ok (.iconst (-1), 1) := by decide +kernel
theorem dX4_readDoor_30 : decode cX4_readDoor 30 = .ok (.if_icmp .ne 7, 3) := by decide +kernel
theorem dX4_readDoor_33 : decode cX4_readDoor 33 = .ok (.iconst (-1), 1) := by decide +kernel
theorem dX4_readDoor_34 : decode cX4_readDoor 34 = .ok (.goto 19, 3) := by decide +kernel
theorem dX4_readDoor_37 : decode cX4_readDoor 37 = .ok (.aload_n 0, 1) := by decide +kernel
theorem dX4_readDoor_38 : decode cX4_readDoor 38 = .ok (.iconst 0, 1) := by decide +kernel
theorem dX4_readDoor_39 : decode cX4_readDoor 39 = .ok (.aload_n 0, 1) := by decide +kernel
theorem dX4_readDoor_40 : decode cX4_readDoor 40 = .ok (.getfield 24, 3) := by decide +kernel
theorem dX4_readDoor_43 : decode cX4_readDoor 43 = .ok (.getfield 45, 3) := by decide +kernel
theorem dX4_readDoor_46 : decode cX4_readDoor 46 = .ok (.iload_n 1, 1) := by decide +kernel
theorem dX4_readDoor_47 : decode cX4_readDoor 47 = .ok (.invokevirtual 99, 3) := by decide +kernel
theorem dX4_readDoor_50 : decode cX4_readDoor 50 = .ok (.invokevirtual 88, 3) := by decide +kernel
theorem dX4_readDoor_53 : decode cX4_readDoor 53 = .ok (.istore_n 2, 1) := by decide +kernel
theorem dX4_readDoor_54 : decode cX4_readDoor 54 = .ok (.iload_n 2, 1) := by decide +kernel
theorem dX4_readDoor_55 : decode cX4_readDoor 55 = .ok (.iconst (-1), 1) := by decide +kernel
theorem dX4_readDoor_56 : decode cX4_readDoor 56 = .ok (.if_icmp .ne 7, 3) := by decide +kernel
theorem dX4_readDoor_59 : decode cX4_readDoor 59 = .ok (.iconst (-1), 1) := by decide +kernel
theorem dX4_readDoor_60 : decode cX4_readDoor 60 = .ok (.goto 21, 3) := by decide +kernel
theorem dX4_readDoor_63 : decode cX4_readDoor 63 = .ok (.aload_n 0, 1) := by decide +kernel
theorem dX4_readDoor_64 : decode cX4_readDoor 64 = .ok (.iload_n 2, 1) := by decide +kernel
theorem dX4_readDoor_65 : decode cX4_readDoor 65 = .ok (.iconst 1, 1) := by decide +kernel
theorem dX4_readDoor_66 : decode cX4_readDoor 66 = .ok (.iadd, 1) := by decide +kernel
theorem dX4_readDoor_67 : decode cX4_readDoor 67 = .ok (.aload_n 0, 1) := by decide +kernel
theorem dX4_readDoor_68 : decode cX4_readDoor 68 = .ok (.getfield 24, 3) := by decide +kernel
theorem dX4_readDoor_71 : decode cX4_readDoor 71 = .ok (.getfield 45, 3) := by decide +kernel
theorem dX4_readDoor_74 : decode cX4_readDoor 74 = .ok (.iload_n 1, 1) := by decide +kernel
theorem dX4_readDoor_75 : decode cX4_readDoor 75 = .ok (.invokevirtual 99, 3) := by decide +kernel
theorem dX4_readDoor_78 : decode cX4_readDoor 78 = .ok (.invokevirtual 88, 3) := by decide +kernel
theorem dX4_readDoor_81 : decode cX4_readDoor 81 = .ok (.istore_n 3, 1) := by decide +kernel
theorem dX4_readDoor_82 : decode cX4_readDoor 82 = .ok (.iload_n 3, 1) := by decide +kernel
theorem dX4_readDoor_83 : decode cX4_readDoor 83 = .ok (.iconst (-1), 1) := by decide +kernel
theorem dX4_readDoor_84 : decode cX4_readDoor 84 = .ok (.if_icmp .ne 7, 3) := by decide +kernel
theorem dX4_readDoor_87 : decode cX4_readDoor 87 = .ok (.iconst (-1), 1) := by decide +kernel
theorem dX4_readDoor_88 : decode cX4_readDoor 88 = .ok (.goto 22, 3) := by decide +kernel
theorem dX4_readDoor_91 : decode cX4_readDoor 91 = .ok (.aload_n 0, 1) := by decide +kernel
theorem dX4_readDoor_92 : decode cX4_readDoor 92 = .ok (.bipush 50, 2) := by decide +kernel
theorem dX4_readDoor_94 : decode cX4_readDoor 94 = .ok (.aload_n 0, 1) := by decide +kernel
theorem dX4_readDoor_95 : decode cX4_readDoor 95 = .ok (.getfield 24, 3) := by decide +kernel
theorem dX4_readDoor_98 : decode cX4_readDoor 98 = .ok (.getfield 45, 3) := by decide +kernel
theorem dX4_readDoor_101 : decode cX4_readDoor 101 = .ok (.iload_n 1, 1) := by decide +kernel
theorem dX4_readDoor_102 : decode cX4_readDoor 102 = .ok (.invokevirtual 103, 3) := by decide +kernel
theorem dX4_readDoor_105 : decode cX4_readDoor 105 = .ok (.iconst 1, 1) := by decide +kernel
theorem dX4_readDoor_106 : decode cX4_readDoor 106 = .ok (.isub, 1) := by decide +kernel
theorem dX4_readDoor_107 : decode cX4_readDoor 107 = .ok (.invokevirtual 88, 3) := by decide +kernel
theorem dX4_readDoor_110 : decode cX4_readDoor 110 = .ok (.istore 4, 2) := by decide +kernel
theorem dX4_readDoor_112 : decode cX4_readDoor 112 = .ok (.iload 4, 2) := by decide +kernel
theorem dX4_readDoor_114 : decode cX4_readDoor 114 = .ok (.iconst (-1), 1) := by decide +kernel
theorem dX4_readDoor_115 : decode cX4_readDoor 115 = .ok (.if_icmp .eq 12, 3) := by decide +kernel
theorem dX4_readDoor_118 : decode cX4_readDoor 118 = .ok (.aload_n 0, 1) := by decide +kernel
theorem dX4_readDoor_119 : decode cX4_readDoor 119 = .ok (.bipush 8, 2) := by decide +kernel
theorem dX4_readDoor_121 : decode cX4_readDoor 121 = .ok (.invokevirtual 92, 3) := by decide +kernel
theorem dX4_readDoor_124 : decode cX4_readDoor 124 = .ok (.ifCond .ne 5, 3) := by decide +kernel
theorem dX4_readDoor_127 : decode cX4_readDoor 127 = .ok (.iconst 0, 1) := by decide +kernel
theorem dX4_readDoor_128 : decode cX4_readDoor 128 = .ok (.ireturn, 1) := by decide +kernel
theorem dX4_readDoor_129 : decode cX4_readDoor 129 = .ok (.aload_n 0, 1) := by decide +kernel
theorem dX4_readDoor_130 : decode cX4_readDoor 130 = .ok (.getfield 24, 3) := by decide +kernel
theorem dX4_readDoor_133 : decode cX4_readDoor 133 = .ok (.iconst 1, 1) := by decide +kernel
theorem dX4_readDoor_134 : decode cX4_readDoor 134 = .ok (.iload_n 1, 1) := by decide +kernel
theorem dX4_readDoor_135 : decode cX4_readDoor 135 = .ok (.iload_n 2, 1) := by decide +kernel
theorem dX4_readDoor_136 : decode cX4_readDoor 136 = .ok (.iload_n 3, 1) := by decide +kernel
theorem dX4_readDoor_137 : decode cX4_readDoor 137 = .ok (.iconst 0, 1) := by decide +kernel
theorem dX4_readDoor_138 : decode cX4_readDoor 138 = .ok (.iload 4, 2) := by decide +kernel
theorem dX4_readDoor_140 : decode cX4_readDoor 140 = .ok (.invokevirtual 106, 3) := by decide +kernel
theorem dX4_readDoor_143 : decode cX4_readDoor 143 = .ok (.iconst 1, 1) := by decide +kernel
theorem dX4_readDoor_144 : decode cX4_readDoor 144 = .ok (.ireturn, 1) := by decide +kernel
theorem dX4_readWindow_0 : decode cX4_readWindow 0 = .ok (.aload_n 0, 1) := by decide +kernel
theorem dX4_readWindow_1 : decode cX4_readWindow 1 = .ok (.dup, 1) := by decide +kernel
theorem dX4_readWindow_2 : decode cX4_readWindow 2 = .ok (.getfield 20, 3) := by decide +kernel
theorem dX4_readWindow_5 : decode cX4_readWindow 5 = .ok (.iconst 1, 1) := by decide +kernel
theorem dX4_readWindow_6 : decode cX4_readWindow 6 = .ok (.iadd, 1) := by decide +kernel
theorem dX4_readWindow_7 : decode cX4_readWindow 7 = .ok (.putfield 20, 3) := by decide +kernel
theorem dX4_readWindow_10 : decode cX4_readWindow 10 = .ok (.aload_n 0, 1) := by decide +kernel
theorem dX4_readWindow_11 : decode cX4_readWindow 11 = .ok (.iconst 0, 1) := by decide +kernel
theorem dX4_readWindow_12 : decode cX4_readWindow 12 = .ok (.aload_n 0, 1) := by decide +kernel
theorem dX4_readWindow_13 : decode cX4_readWindow 13 = .ok (.getfield 24, 3) := by decide +kernel
theorem dX4_readWindow_16 : decode cX4_readWindow 16 = .ok (.getfield 45, 3) := by decide +kernel
theorem dX4_readWindow_19 : decode cX4_readWindow 19 = .ok (.getfield 49, 3) := by decide +kernel
theorem dX4_readWindow_22 : decode cX4_readWindow 22 = .ok (.iconst 1, 1) := by decide +kernel
theorem dX4_readWindow_23 : decode cX4_readWindow 23 = .ok (.isub, 1) := by decide +kernel
theorem dX4_readWindow_24 : decode cX4_readWindow 24 = .ok (.invokevirtual 88, 3) := by decide +kernel
theorem dX4_readWindow_27 : decode cX4_readWindow 27 = .ok (.istore_n 1, 1) := by decide +kernel
theorem dX4_readWindow_28 : decode cX4_readWindow 28 = .ok (.iload_n 1, 1) := by decide +kernel
theorem dX4_readWindow_29 : decode cX4_readWindow 29 = .ok (.iconst (-1), 1) := by decide +kernel
theorem dX4_readWindow_30 : decode cX4_readWindow 30 = .ok (.if_icmp .ne 7, 3) := by decide +kernel
theorem dX4_readWindow_33 : decode cX4_readWindow 33 = .ok (.iconst (-1), 1) := by decide +kernel
theorem dX4_readWindow_34 : decode cX4_readWindow 34 = .ok (.goto 19, 3) := by decide +kernel
theorem dX4_readWindow_37 : decode cX4_readWindow 37 = .ok (.aload_n 0, 1) := by decide +kernel
theorem dX4_readWindow_38 : decode cX4_readWindow 38 = .ok (.iconst 0, 1) := by decide +kernel
theorem dX4_readWindow_39 : decode cX4_readWindow 39 = .ok (.aload_n 0, 1) := by decide +kernel
theorem dX4_readWindow_40 : decode cX4_readWindow 40 = .ok (.getfield 24, 3) := by decide +kernel
theorem dX4_readWindow_43 : decode cX4_readWindow 43 = .ok (.getfield 45, 3) := by decide +kernel
theorem dX4_readWindow_46 : decode cX4_readWindow 46 = .ok (.iload_n 1, 1) := by decide +kernel
theorem dX4_readWindow_47 : decode cX4_readWindow 47 = .ok (.invokevirtual 99, 3) := by decide +kernel
theorem dX4_readWindow_50 : decode cX4_readWindow 50 = .ok (.invokevirtual 88, 3) := by decide +kernel
theorem dX4_readWindow_53 : decode cX4_readWindow 53 = .ok (.istore_n 2, 1) := by decide +kernel
theorem dX4_readWindow_54 : decode cX4_readWindow 54 = .ok (.iload_n 2, 1) := by decide +kernel
theorem dX4_readWindow_55 : decode cX4_readWindow 55 = .ok (.iconst (-1), 1) := by decide +kernel
theorem dX4_readWindow_56 : decode cX4_readWindow 56 = .ok (.if_icmp .ne 7, 3) := by decide +kernel
theorem dX4_readWindow_59 : decode cX4_readWindow 59 = .ok (.iconst (-1), 1) := by decide +kernel
theorem dX4_readWindow_60 : decode cX4_readWindow 60 = .ok (.goto 21, 3) := by decide +kernel
theorem dX4_readWindow_63 : decode cX4_readWindow 63 = .ok (.aload_n 0, 1) := by decide +kernel
theorem dX4_readWindow_64 : decode cX4_readWindow 64 = .ok (.iload_n 2, 1) := by decide +kernel
theorem dX4_readWindow_65 : decode cX4_readWindow 65 = .ok (.iconst 1, 1) := by decide +kernel
theorem dX4_readWindow_66 : decode cX4_readWindow 66 = .ok (.iadd, 1) := by decide +kernel
theorem dX4_readWindow_67 : decode cX4_readWindow 67 = .ok (.aload_n 0, 1) := by decide +kernel
theorem dX4_readWindow_68 : decode cX4_readWindow 68 = .ok (.getfield 24, 3) := by decide +kernel
theorem dX4_readWindow_71 : decode cX4_readWindow 71 = .ok (.getfield 45, 3) := by decide +kernel
theorem dX4_readWindow_74 : decode cX4_readWindow 74 = .ok (.iload_n 1, 1) := by decide +kernel
theorem dX4_readWindow_75 : decode cX4_readWindow 75 = .ok (.invokevirtual 99, 3) := by decide +kernel
theorem dX4_readWindow_78 : decode cX4_readWindow 78 = .ok (.invokevirtual 88, 3) := by decide +kernel
theorem dX4_readWindow_81 : decode cX4_readWindow 81 = .ok (.istore_n 3, 1) := by decide +kernel
theorem dX4_readWindow_82 : decode cX4_readWindow 82 = .ok (.iload_n 3, 1) := by decide +kernel
theorem dX4_readWindow_83 : decode cX4_readWindow 83 = .ok (.iconst (-1), 1) := by decide +kernel
theorem dX4_readWindow_84 : decode cX4_readWindow 84 = .ok (.if_icmp .ne 7, 3) := by decide +kernel
theorem dX4_readWindow_87 : decode cX4_readWindow 87 = .ok (.iconst (-1), 1) := by decide +kernel
theorem dX4_readWindow_88 : decode cX4_readWindow 88 = .ok (.goto 11, 3) := by decide +kernel
theorem dX4_readWindow_91 : decode cX4_readWindow 91 = .ok (.aload_n 0, 1) := by decide +kernel
theorem dX4_readWindow_92 : decode cX4_readWindow 92 = .ok (.iconst 1, 1) := by decide +kernel
theorem dX4_readWindow_93 : decode cX4_readWindow 93 = .ok (.sipush 300, 3) := by decide +kernel
theorem dX4_readWindow_96 : decode cX4_readWindow 96 = .ok (.invokevirtual 88, 3) := by decide +kernel
theorem dX4_readWindow_99 : decode cX4_readWindow 99 = .ok (.istore 4, 2) := by decide +kernel
theorem dX4_readWindow_101 : decode cX4_readWindow 101 = .ok (.iload 4, 2) := by decide +kernel
theorem dX4_readWindow_103 : decode cX4_readWindow 103 = .ok (.iconst (-1), 1) := by decide +kernel
theorem dX4_readWindow_104 : decode cX4_readWindow 104 = .ok (.if_icmp .ne 7, 3) := by decide +kernel
theorem dX4_readWindow_107 : decode cX4_readWindow 107 = .ok (.iconst (-1), 1) := by decide +kernel
theorem dX4_readWindow_108 : decode cX4_readWindow 108 = .ok (.goto 24, 3) := by decide +kernel
theorem dX4_readWindow_111 : decode cX4_readWindow 111 = .ok (.aload_n 0, 1) := by decide +kernel
theorem dX4_readWindow_112 : decode cX4_readWindow 112 = .ok (.iload 4, 2) := by decide +kernel
theorem dX4_readWindow_114 : decode cX4_readWindow 114 = .ok (.iconst 1, 1) := by decide +kernel
theorem dX4_readWindow_115 : decode cX4_readWindow 115 = .ok (.iadd, 1) := by decide +kernel
theorem dX4_readWindow_116 : decode cX4_readWindow 116 = .ok (.aload_n 0, 1) := by decide +kernel
theorem dX4_readWindow_117 : decode cX4_readWindow 117 = .ok (.getfield 24, 3) := by decide +kernel
theorem dX4_readWindow_120 : decode cX4_readWindow 120 = .ok (.getfield 45, 3) := by decide +kernel
theorem dX4_readWindow_123 : decode cX4_readWindow 123 = .ok (.iload_n 1, 1) := by decide +kernel
theorem dX4_readWindow_124 : decode cX4_readWindow 124 = .ok (.invokevirtual 103, 3) := by decide +kernel
theorem dX4_readWindow_127 : decode cX4_readWindow 127 = .ok (.iconst 1, 1) := by decide +kernel
theorem dX4_readWindow_128 : decode cX4_readWindow 128 = .ok (.isub, 1) := by decide +kernel
theorem dX4_readWindow_129 : decode cX4_readWindow 129 = .ok (.invokevirtual 88, 3) := by decide +kernel
theorem dX4_readWindow_132 : decode cX4_readWindow 132 = .ok (.istore 5, 2) := by decide +kernel
theorem dX4_readWindow_134 : decode cX4_readWindow 134 = .ok (.iload 5, 2) := by decide +kernel
theorem dX4_readWindow_136 : decode cX4_readWindow 136 = .ok (.iconst (-1), 1) := by decide +kernel
theorem dX4_readWindow_137 : decode cX4_readWindow 137 = .ok (.if_icmp .eq 12, 3) := by decide +kernel
theorem dX4_readWindow_140 : decode cX4_readWindow 140 = .ok (.aload_n 0, 1) := by decide +kernel
theorem dX4_readWindow_141 : decode cX4_readWindow 141 = .ok (.bipush 8, 2) := by decide +kernel
theorem dX4_readWindow_143 : decode cX4_readWindow 143 = .ok (.invokevirtual 92, 3) := by decide +kernel
theorem dX4_readWindow_146 : decode cX4_readWindow 146 = .ok (.ifCond .ne 5, 3) := by decide +kernel
theorem dX4_readWindow_149 : decode cX4_readWindow 149 = .ok (.iconst 0, 1) := by decide +kernel
theorem dX4_readWindow_150 : decode cX4_readWindow 150 = .ok (.ireturn, 1) := by decide +kernel
theorem dX4_readWindow_151 : decode cX4_readWindow 151 = .ok (.aload_n 0, 1) := by decide +kernel
theorem dX4_readWindow_152 : decode cX4_readWindow 152 = .ok (.getfield 24, 3) := by decide +kernel
theorem dX4_readWindow_155 : decode cX4_readWindow 155 = .ok (.iconst 0, 1) := by decide +kernel
theorem dX4_readWindow_156 : decode cX4_readWindow 156 = .ok (.iload_n 1, 1) := by decide +kernel
theorem dX4_readWindow_157 : decode cX4_readWindow 157 = .ok (.iload_n 2, 1) := by decide +kernel
theorem dX4_readWindow_158 : decode cX4_readWindow 158 = .ok (.iload_n 3, 1) := by decide +kernel
theorem dX4_readWindow_159 : decode cX4_readWindow 159 = .ok (.iload 4, 2) := by decide +kernel
theorem dX4_readWindow_161 : decode cX4_readWindow 161 = .ok (.iload 5, 2) := by decide +kernel
theorem dX4_readWindow_163 : decode cX4_readWindow 163 = .ok (.invokevirtual 106, 3) := by decide +kernel
theorem dX4_readWindow_166 : decode cX4_readWindow 166 = .ok (.iconst 1, 1) := by decide +kernel
theorem dX4_readWindow_167 : decode cX4_readWindow 167 = .ok (.ireturn, 1) := by decide +kernel
theorem dX4_readLean_0 : decode cX4_readLean 0 = .ok (.aload_n 0, 1) := by decide +kernel
theorem dX4_readLean_1 : decode cX4_readLean 1 = .ok (.dup, 1) := by decide +kernel
theorem dX4_readLean_2 : decode cX4_readLean 2 = .ok (.getfield 20, 3) := by decide +kernel
theorem dX4_readLean_5 : decode cX4_readLean 5 = .ok (.iconst 1, 1) := by decide +kernel
theorem dX4_readLean_6 : decode cX4_readLean 6 = .ok (.iadd, 1) := by decide +kernel
theorem dX4_readLean_7 : decode cX4_readLean 7 = .ok (.putfield 20, 3) := by decide +kernel
theorem dX4_readLean_10 : decode cX4_readLean 10 = .ok (.aload_n 0, 1) := by decide +kernel
theorem dX4_readLean_11 : decode cX4_readLean 11 = .ok (.bipush 6, 2) := by decide +kernel
theorem dX4_readLean_13 : decode cX4_readLean 13 = .ok (.invokevirtual 33, 3) := by decide +kernel
theorem dX4_readLean_16 : decode cX4_readLean 16 = .ok (.ifCond .eq 30, 3) := by decide +kernel
theorem dX4_readLean_19 : decode cX4_readLean 19 = .ok (.aload_n 0, 1) := by decide +kernel
theorem dX4_readLean_20 : decode cX4_readLean 20 = .ok (.getfield 24, 3) := by decide +kernel
theorem dX4_readLean_23 : decode cX4_readLean 23 = .ok (.getfield 45, 3) := by decide +kernel
theorem dX4_readLean_26 : decode cX4_readLean 26 = .ok (.aload_n 0, 1) := by decide +kernel
theorem dX4_readLean_27 : decode cX4_readLean 27 = .ok (.getfield 9, 3) := by decide +kernel
theorem dX4_readLean_30 : decode cX4_readLean 30 = .ok (.getfield 110, 3) := by decide +kernel
theorem dX4_readLean_33 : decode cX4_readLean 33 = .ok (.aload_n 0, 1) := by decide +kernel
theorem dX4_readLean_34 : decode cX4_readLean 34 = .ok (.getfield 20, 3) := by decide +kernel
theorem dX4_readLean_37 : decode cX4_readLean 37 = .ok (.iaload, 1) := by decide +kernel
theorem dX4_readLean_38 : decode cX4_readLean 38 = .ok (.invokevirtual 113, 3) := by decide +kernel
theorem dX4_readLean_41 : decode cX4_readLean 41 = .ok (.ifCond .eq 5, 3) := by decide +kernel
theorem dX4_readLean_44 : decode cX4_readLean 44 = .ok (.iconst 0, 1) := by decide +kernel
theorem dX4_readLean_45 : decode cX4_readLean 45 = .ok (.ireturn, 1) := by decide +kernel
theorem dX4_readLean_46 : decode cX4_readLean 46 = .ok (.aload_n 0, 1) := by decide +kernel
theorem dX4_readLean_47 : decode cX4_readLean 47 = .ok (.iconst 0, 1) := by decide +kernel
theorem dX4_readLean_48 : decode cX4_readLean 48 = .ok (.aload_n 0, 1) := by decide +kernel
theorem dX4_readLean_49 : decode cX4_readLean 49 = .ok (.getfield 24, 3) := by decide +kernel
theorem dX4_readLean_52 : decode cX4_readLean 52 = .ok (.getfield 45, 3) := by decide +kernel
theorem dX4_readLean_55 : decode cX4_readLean 55 = .ok (.getfield 49, 3) := by decide +kernel
theorem dX4_readLean_58 : decode cX4_readLean 58 = .ok (.iconst 1, 1) := by decide +kernel
theorem dX4_readLean_59 : decode cX4_readLean 59 = .ok (.isub, 1) := by decide +kernel
theorem dX4_readLean_60 : decode cX4_readLean 60 = .ok (.invokevirtual 88, 3) := by decide +kernel
theorem dX4_readLean_63 : decode cX4_readLean 63 = .ok (.istore_n 1, 1) := by decide +kernel
theorem dX4_readLean_64 : decode cX4_readLean 64 = .ok (.iload_n 1, 1) := by decide +kernel
theorem dX4_readLean_65 : decode cX4_readLean 65 = .ok (.iconst (-1), 1) := by decide +kernel
theorem dX4_readLean_66 : decode cX4_readLean 66 = .ok (.if_icmp .ne 5, 3) := by decide +kernel
theorem dX4_readLean_69 : decode cX4_readLean 69 = .ok (.iconst 0, 1) := by decide +kernel
theorem dX4_readLean_70 : decode cX4_readLean 70 = .ok (.ireturn, 1) := by decide +kernel
theorem dX4_readLean_71 : decode cX4_readLean 71 = .ok (.aload_n 0, 1) := by decide +kernel
theorem dX4_readLean_72 : decode cX4_readLean 72 = .ok (.bipush 7, 2) := by decide +kernel
theorem dX4_readLean_74 : decode cX4_readLean 74 = .ok (.invokevirtual 92, 3) := by decide +kernel
theorem dX4_readLean_77 : decode cX4_readLean 77 = .ok (.ifCond .eq 7, 3) := by decide +kernel
theorem dX4_readLean_80 : decode cX4_readLean 80 = .ok (.iconst (-1), 1) := by decide +kernel
theorem dX4_readLean_81 : decode cX4_readLean 81 = .ok (.goto 4, 3) := by decide +kernel
theorem dX4_readLean_84 : decode cX4_readLean 84 = .ok (.iconst 1, 1) := by decide +kernel
theorem dX4_readLean_85 : decode cX4_readLean 85 = .ok (.istore_n 2, 1) := by decide +kernel
theorem dX4_readLean_86 : decode cX4_readLean 86 = .ok (.aload_n 0, 1) := by decide +kernel
theorem dX4_readLean_87 : decode cX4_readLean 87 = .ok (.iconst 0, 1) := by decide +kernel
theorem dX4_readLean_88 : decode cX4_readLean 88 = .ok (.bipush 50, 2) := by decide +kernel
theorem dX4_readLean_90 : decode cX4_readLean 90 = .ok (.invokevirtual 88, 3) := by decide +kernel
theorem dX4_readLean_93 : decode cX4_readLean 93 = .ok (.istore_n 3, 1) := by decide +kernel
theorem dX4_readLean_94 : decode cX4_readLean 94 = .ok (.iload_n 3, 1) := by decide +kernel
theorem dX4_readLean_95 : decode cX4_readLean 95 = .ok (.iconst (-1), 1) := by decide +kernel
theorem dX4_readLean_96 : decode cX4_readLean 96 = .ok (.if_icmp .eq 12, 3) := by decide +kernel
theorem dX4_readLean_99 : decode cX4_readLean 99 = .ok (.aload_n 0, 1) := by decide +kernel
theorem dX4_readLean_100 : decode cX4_readLean 100 = .ok (.bipush 8, 2) := by decide +kernel
theorem dX4_readLean_102 : decode cX4_readLean 102 = .ok (.invokevirtual 92, 3) := by decide +kernel
theorem dX4_readLean_105 : decode cX4_readLean 105 = .ok (.ifCond .ne 5, 3) := by decide +kernel
theorem dX4_readLean_108 : decode cX4_readLean 108 = .ok (.iconst 0, 1) := by decide +kernel
theorem dX4_readLean_109 : decode cX4_readLean 109 = .ok (.ireturn, 1) := by decide +kernel
theorem dX4_readLean_110 : decode cX4_readLean 110 = .ok (.aload_n 0, 1) := by decide +kernel
theorem dX4_readLean_111 : decode cX4_readLean 111 = .ok (.getfield 24, 3) := by decide +kernel
theorem dX4_readLean_114 : decode cX4_readLean 114 = .ok (.getfield 45, 3) := by decide +kernel
theorem dX4_readLean_117 : decode cX4_readLean 117 = .ok (.iload_n 1, 1) := by decide +kernel
theorem dX4_readLean_118 : decode cX4_readLean 118 = .ok (.iload_n 2, 1) := by decide +kernel
theorem dX4_readLean_119 : decode cX4_readLean 119 = .ok (.iload_n 3, 1) := by decide +kernel
theorem dX4_readLean_120 : decode cX4_readLean 120 = .ok (.imul, 1) := by decide +kernel
theorem dX4_readLean_121 : decode cX4_readLean 121 = .ok (.invokevirtual 116, 3) := by decide +kernel
theorem dX4_readLean_124 : decode cX4_readLean 124 = .ok (.iconst 1, 1) := by decide +kernel
theorem dX4_readLean_125 : decode cX4_readLean 125 = .ok (.ireturn, 1) := by decide +kernel
theorem dX4_readStand_0 : decode cX4_readStand 0 = .ok (.aload_n 0, 1) := by decide +kernel
theorem dX4_readStand_1 : decode cX4_readStand 1 = .ok (.dup, 1) := by decide +kernel
theorem dX4_readStand_2 : decode cX4_readStand 2 = .ok (.getfield 20, 3) := by decide +kernel
theorem dX4_readStand_5 : decode cX4_readStand 5 = .ok (.iconst 1, 1) := by decide +kernel
theorem dX4_readStand_6 : decode cX4_readStand 6 = .ok (.iadd, 1) := by decide +kernel
theorem dX4_readStand_7 : decode cX4_readStand 7 = .ok (.putfield 20, 3) := by decide +kernel
theorem dX4_readStand_10 : decode cX4_readStand 10 = .ok (.aload_n 0, 1) := by decide +kernel
theorem dX4_readStand_11 : decode cX4_readStand 11 = .ok (.iconst 0, 1) := by decide +kernel
theorem dX4_readStand_12 : decode cX4_readStand 12 = .ok (.aload_n 0, 1) := by decide +kernel
theorem dX4_readStand_13 : decode cX4_readStand 13 = .ok (.getfield 24, 3) := by decide +kernel
theorem dX4_readStand_16 : decode cX4_readStand 16 = .ok (.getfield 45, 3) := by decide +kernel
theorem dX4_readStand_19 : decode cX4_readStand 19 = .ok (.getfield 49, 3) := by decide +kernel
theorem dX4_readStand_22 : decode cX4_readStand 22 = .ok (.iconst 1, 1) := by decide +kernel
theorem dX4_readStand_23 : decode cX4_readStand 23 = .ok (.isub, 1) := by decide +kernel
theorem dX4_readStand_24 : decode cX4_readStand 24 = .ok (.invokevirtual 88, 3) := by decide +kernel
theorem dX4_readStand_27 : decode cX4_readStand 27 = .ok (.istore_n 1, 1) := by decide +kernel
theorem dX4_readStand_28 : decode cX4_readStand 28 = .ok (.iload_n 1, 1) := by decide +kernel
theorem dX4_readStand_29 : decode cX4_readStand 29 = .ok (.iconst (-1), 1) := by decide +kernel
theorem dX4_readStand_30 : decode cX4_readStand 30 = .ok (.if_icmp .ne 7, 3) := by decide +kernel
theorem dX4_readStand_33 : decode cX4_readStand 33 = .ok (.iconst (-1), 1) := by decide +kernel
theorem dX4_readStand_34 : decode cX4_readStand 34 = .ok (.goto 19, 3) := by decide +kernel
theorem dX4_readStand_37 : decode cX4_readStand 37 = .ok (.aload_n 0, 1) := by decide +kernel
theorem dX4_readStand_38 : decode cX4_readStand 38 = .ok (.iconst 0, 1) := by decide +kernel
theorem dX4_readStand_39 : decode cX4_readStand 39 = .ok (.aload_n 0, 1) := by decide +kernel
theorem dX4_readStand_40 : decode cX4_readStand 40 = .ok (.getfield 24, 3) := by decide +kernel
theorem dX4_readStand_43 : decode cX4_readStand 43 = .ok (.getfield 45, 3) := by decide +kernel
theorem dX4_readStand_46 : decode cX4_readStand 46 = .ok (.iload_n 1, 1) := by decide +kernel
theorem dX4_readStand_47 : decode cX4_readStand 47 = .ok (.invokevirtual 99, 3) := by decide +kernel
theorem dX4_readStand_50 : decode cX4_readStand 50 = .ok (.invokevirtual 88, 3) := by decide +kernel
theorem dX4_readStand_53 : decode cX4_readStand 53 = .ok (.istore_n 2, 1) := by decide +kernel
theorem dX4_readStand_54 : decode cX4_readStand 54 = .ok (.iload_n 2, 1) := by decide +kernel
theorem dX4_readStand_55 : decode cX4_readStand 55 = .ok (.iconst (-1), 1) := by decide +kernel
theorem dX4_readStand_56 : decode cX4_readStand 56 = .ok (.if_icmp .ne 7, 3) := by decide +kernel
theorem dX4_readStand_59 : decode cX4_readStand 59 = .ok (.iconst (-1), 1) := by decide +kernel
theorem dX4_readStand_60 : decode cX4_readStand 60 = .ok (.goto 11, 3) := by decide +kernel
theorem dX4_readStand_63 : decode cX4_readStand 63 = .ok (.aload_n 0, 1) := by decide +kernel
theorem dX4_readStand_64 : decode cX4_readStand 64 = .ok (.iconst 0, 1) := by decide +kernel
theorem dX4_readStand_65 : decode cX4_readStand 65 = .ok (.sipush 400, 3) := by decide +kernel
theorem dX4_readStand_68 : decode cX4_readStand 68 = .ok (.invokevirtual 88, 3) := by decide +kernel
theorem dX4_readStand_71 : decode cX4_readStand 71 = .ok (.istore_n 3, 1) := by decide +kernel
theorem dX4_readStand_72 : decode cX4_readStand 72 = .ok (.iload_n 3, 1) := by decide +kernel
theorem dX4_readStand_73 : decode cX4_readStand 73 = .ok (.iconst (-1), 1) := by decide +kernel
theorem dX4_readStand_74 : decode cX4_readStand 74 = .ok (.if_icmp .eq 12, 3) := by decide +kernel
theorem dX4_readStand_77 : decode cX4_readStand 77 = .ok (.aload_n 0, 1) := by decide +kernel
theorem dX4_readStand_78 : decode cX4_readStand 78 = .ok (.bipush 8, 2) := by decide +kernel
theorem dX4_readStand_80 : decode cX4_readStand 80 = .ok (.invokevirtual 92, 3) := by decide +kernel
theorem dX4_readStand_83 : decode cX4_readStand 83 = .ok (.ifCond .ne 5, 3) := by decide +kernel
theorem dX4_readStand_86 : decode cX4_readStand 86 = .ok (.iconst 0, 1) := by decide +kernel
theorem dX4_readStand_87 : decode cX4_readStand 87 = .ok (.ireturn, 1) := by decide +kernel
theorem dX4_readStand_88 : decode cX4_readStand 88 = .ok (.aload_n 0, 1) := by decide +kernel
theorem dX4_readStand_89 : decode cX4_readStand 89 = .ok (.getfield 24, 3) := by decide +kernel
theorem dX4_readStand_92 : decode cX4_readStand 92 = .ok (.iload_n 1, 1) := by decide +kernel
theorem dX4_readStand_93 : decode cX4_readStand 93 = .ok (.iload_n 2, 1) := by decide +kernel
theorem dX4_readStand_94 : decode cX4_readStand 94 = .ok (.iload_n 3, 1) := by decide +kernel
theorem dX4_readStand_95 : decode cX4_readStand 95 = .ok (.invokevirtual 120, 3) := by decide +kernel
theorem dX4_readStand_98 : decode cX4_readStand 98 = .ok (.iconst 1, 1) := by decide +kernel
theorem dX4_readStand_99 : decode cX4_readStand 99 = .ok (.ireturn, 1) := by decide +kernel
theorem dX4_readNumber_0 : decode cX4_readNumber 0 = .ok (.aload_n 0, 1) := by decide +kernel
theorem dX4_readNumber_1 : decode cX4_readNumber 1 = .ok (.bipush 6, 2) := by decide +kernel
theorem dX4_readNumber_3 : decode cX4_readNumber 3 = .ok (.invokevirtual 33, 3) := by decide +kernel
theorem dX4_readNumber_6 : decode cX4_readNumber 6 = .ok (.ifCond .eq 23, 3) := by decide +kernel
theorem dX4_readNumber_9 : decode cX4_readNumber 9 = .ok (.iload_n 1, 1) := by decide +kernel
theorem dX4_readNumber_10 : decode cX4_readNumber 10 = .ok (.aload_n 0, 1) := by decide +kernel
theorem dX4_readNumber_11 : decode cX4_readNumber 11 = .ok (.getfield 9, 3) := by decide +kernel
theorem dX4_readNumber_14 : decode cX4_readNumber 14 = .ok (.getfield 110, 3) := by decide +kernel
theorem dX4_readNumber_17 : decode cX4_readNumber 17 = .ok (.aload_n 0, 1) := by decide +kernel
theorem dX4_readNumber_18 : decode cX4_readNumber 18 = .ok (.getfield 20, 3) := by decide +kernel
theorem dX4_readNumber_21 : decode cX4_readNumber 21 = .ok (.iaload, 1) := by decide +kernel
theorem dX4_readNumber_22 : decode cX4_readNumber 22 = .ok (.iload_n 2, 1) := by decide +kernel
theorem dX4_readNumber_23 : decode cX4_readNumber 23 = .ok (.invokestatic 123, 3) := by decide +kernel
theorem dX4_readNumber_26 : decode cX4_readNumber 26 = .ok (.ifCond .ne 5, 3) := by decide +kernel
theorem dX4_readNumber_29 : decode cX4_readNumber 29 = .ok (.iconst (-1), 1) := by decide +kernel
theorem dX4_readNumber_30 : decode cX4_readNumber 30 = .ok (.ireturn, 1) := by decide +kernel
theorem dX4_readNumber_31 : decode cX4_readNumber 31 = .ok (.aload_n 0, 1) := by decide +kernel
theorem dX4_readNumber_32 : decode cX4_readNumber 32 = .ok (.dup, 1) := by decide +kernel
theorem dX4_readNumber_33 : decode cX4_readNumber 33 = .ok (.getfield 20, 3) := by decide +kernel
theorem dX4_readNumber_36 : decode cX4_readNumber 36 = .ok (.iconst 1, 1) := by decide +kernel
theorem dX4_readNumber_37 : decode cX4_readNumber 37 = .ok (.iadd, 1) := by decide +kernel
theorem dX4_readNumber_38 : decode cX4_readNumber 38 = .ok (.putfield 20, 3) := by decide +kernel
theorem dX4_readNumber_41 : decode cX4_readNumber 41 = .ok (.aload_n 0, 1) := by decide +kernel
theorem dX4_readNumber_42 : decode cX4_readNumber 42 = .ok (.getfield 9, 3) := by decide +kernel
theorem dX4_readNumber_45 : decode cX4_readNumber 45 = .ok (.getfield 110, 3) := by decide +kernel
theorem dX4_readNumber_48 : decode cX4_readNumber 48 = .ok (.aload_n 0, 1) := by decide +kernel
theorem dX4_readNumber_49 : decode cX4_readNumber 49 = .ok (.getfield 20, 3) := by decide +kernel
theorem dX4_readNumber_52 : decode cX4_readNumber 52 = .ok (.iconst 1, 1) := by decide +kernel
theorem dX4_readNumber_53 : decode cX4_readNumber 53 = .ok (.isub, 1) := by decide +kernel
theorem dX4_readNumber_54 : decode cX4_readNumber 54 = .ok (.iaload, 1) := by decide +kernel
theorem dX4_readNumber_55 : decode cX4_readNumber 55 = .ok (.ireturn, 1) := by decide +kernel
theorem dX4_readSign_0 : decode cX4_readSign 0 = .ok (.aload_n 0, 1) := by decide +kernel
theorem dX4_readSign_1 : decode cX4_readSign 1 = .ok (.iload_n 1, 1) := by decide +kernel
theorem dX4_readSign_2 : decode cX4_readSign 2 = .ok (.invokevirtual 33, 3) := by decide +kernel
theorem dX4_readSign_5 : decode cX4_readSign 5 = .ok (.ifCond .ne 5, 3) := by decide +kernel
theorem dX4_readSign_8 : decode cX4_readSign 8 = .ok (.iconst 0, 1) := by decide +kernel
theorem dX4_readSign_9 : decode cX4_readSign 9 = .ok (.ireturn, 1) := by decide +kernel
theorem dX4_readSign_10 : decode cX4_readSign 10 = .ok (.aload_n 0, 1) := by decide +kernel
theorem dX4_readSign_11 : decode cX4_readSign 11 = .ok (.dup, 1) := by decide +kernel
theorem dX4_readSign_12 : decode cX4_readSign 12 = .ok (.getfield 20, 3) := by decide +kernel
theorem dX4_readSign_15 : decode cX4_readSign 15 = .ok (.iconst 1, 1) := by decide +kernel
theorem dX4_readSign_16 : decode cX4_readSign 16 = .ok (.iadd, 1) := by decide +kernel
theorem dX4_readSign_17 : decode cX4_readSign 17 = .ok (.putfield 20, 3) := by decide +kernel
theorem dX4_readSign_20 : decode cX4_readSign 20 = .ok (.iconst 1, 1) := by decide +kernel
theorem dX4_readSign_21 : decode cX4_readSign 21 = .ok (.ireturn, 1) := by decide +kernel
theorem dX5_begin_0 : decode cX5_begin 0 = .ok (.aload_n 0, 1) := by decide +kernel
theorem dX5_begin_1 : decode cX5_begin 1 = .ok (.aload_n 1, 1) := by decide +kernel
theorem dX5_begin_2 : decode cX5_begin 2 = .ok (.putfield 26, 3) := by decide +kernel
theorem dX5_begin_5 : decode cX5_begin 5 = .ok (.aload_n 0, 1) := by decide +kernel
theorem dX5_begin_6 : decode cX5_begin 6 = .ok (.iconst 0, 1) := by decide +kernel
theorem dX5_begin_7 : decode cX5_begin 7 = .ok (.putfield 30, 3) := by decide +kernel
theorem dX5_begin_10 : decode cX5_begin 10 = .ok (.return_, 1) := by decide +kernel
theorem dX5_cut_0 : decode cX5_cut 0 = .ok (.iconst 0, 1) := by decide +kernel
theorem dX5_cut_1 : decode cX5_cut 1 = .ok (.istore_n 3, 1) := by decide +kernel
theorem dX5_cut_2 : decode cX5_cut 2 = .ok (.iload_n 3, 1) := by decide +kernel
theorem dX5_cut_3 : decode cX5_cut 3 = .ok (.aload_n 0, 1) := by decide +kernel
theorem dX5_cut_4 : decode cX5_cut 4 = .ok (.getfield 30, 3) := by decide +kernel
theorem dX5_cut_7 : decode cX5_cut 7 = .ok (.if_icmp .ge 49, 3) := by decide +kernel
theorem dX5_cut_10 : decode cX5_cut 10 = .ok (.aload_n 0, 1) := by decide +kernel
theorem dX5_cut_11 : decode cX5_cut 11 = .ok (.getfield 26, 3) := by decide +kernel
theorem dX5_cut_14 : decode cX5_cut 14 = .ok (.aload_n 0, 1) := by decide +kernel
theorem dX5_cut_15 : decode cX5_cut 15 = .ok (.getfield 13, 3) := by decide +kernel
theorem dX5_cut_18 : decode cX5_cut 18 = .ok (.iload_n 3, 1) := by decide +kernel
theorem dX5_cut_19 : decode cX5_cut 19 = .ok (.iaload, 1) := by decide +kernel
theorem dX5_cut_20 : decode cX5_cut 20 = .ok (.iload_n 2, 1) := by decide +kernel
theorem dX5_cut_21 : decode cX5_cut 21 = .ok (.invokevirtual 34, 3) := by decide +kernel
theorem dX5_cut_24 : decode cX5_cut 24 = .ok (.istore 4, 2) := by decide +kernel
theorem dX5_cut_26 : decode cX5_cut 26 = .ok (.iload 4, 2) := by decide +kernel
theorem dX5_cut_28 : decode cX5_cut 28 = .ok (.iload_n 1, 1) := by decide +kernel
theorem dX5_cut_29 : decode cX5_cut 29 = .ok (.iadd, 1) := by decide +kernel
theorem dX5_cut_30 : decode cX5_cut 30 = .ok (.aload_n 0, 1) := by decide +kernel
theorem dX5_cut_31 : decode cX5_cut 31 = .ok (.getfield 26, 3) := by decide +kernel
theorem dX5_cut_34 : decode cX5_cut 34 = .ok (.getfield 40, 3) := by decide +kernel
theorem dX5_cut_37 : decode cX5_cut 37 = .ok (.if_icmp .gt 13, 3) := by decide +kernel
theorem dX5_cut_40 : decode cX5_cut 40 = .ok (.aload_n 0, 1) := by decide +kernel
theorem dX5_cut_41 : decode cX5_cut 41 = .ok (.iload_n 3, 1) := by decide +kernel
theorem dX5_cut_42 : decode cX5_cut 42 = .ok (.iload 4, 2) := by decide +kernel
theorem dX5_cut_44 : decode cX5_cut 44 = .ok (.iload_n 1, 1) := by decide +kernel
theorem dX5_cut_45 : decode cX5_cut 45 = .ok (.invokevirtual 43, 3) := by decide +kernel
theorem dX5_cut_48 : decode cX5_cut 48 = .ok (.iconst 1, 1) := by decide +kernel
theorem dX5_cut_49 : decode cX5_cut 49 = .ok (.ireturn, 1) := by decide +kernel
theorem dX5_cut_50 : decode cX5_cut 50 = .ok (.iinc 3 1, 3) := by decide +kernel
theorem dX5_cut_53 : decode cX5_cut 53 = .ok (.goto (-51), 3) := by decide +kernel
theorem dX5_cut_56 : decode cX5_cut 56 = .ok (.aload_n 0, 1) := by decide +kernel
theorem dX5_cut_57 : decode cX5_cut 57 = .ok (.getfield 30, 3) := by decide +kernel
theorem dX5_cut_60 : decode cX5_cut 60 = .ok (.sipush 2880, 3) := by decide +kernel
theorem dX5_cut_63 : decode cX5_cut 63 = .ok (.if_icmp .ge 16, 3) := by decide +kernel
theorem dX5_cut_66 : decode cX5_cut 66 = .ok (.iload_n 2, 1) := by decide +kernel
theorem dX5_cut_67 : decode cX5_cut 67 = .ok (.iload_n 1, 1) := by decide +kernel
theorem dX5_cut_68 : decode cX5_cut 68 = .ok (.iadd, 1) := by decide +kernel
theorem dX5_cut_69 : decode cX5_cut 69 = .ok (.aload_n 0, 1) := by decide +kernel
theorem dX5_cut_70 : decode cX5_cut 70 = .ok (.getfield 26, 3) := by decide +kernel
theorem dX5_cut_73 : decode cX5_cut 73 = .ok (.getfield 40, 3) := by decide +kernel
theorem dX5_cut_76 : decode cX5_cut 76 = .ok (.if_icmp .le 5, 3) := by decide +kernel
theorem dX5_cut_79 : decode cX5_cut 79 = .ok (.iconst 0, 1) := by decide +kernel
theorem dX5_cut_80 : decode cX5_cut 80 = .ok (.ireturn, 1) := by decide +kernel
theorem dX5_cut_81 : decode cX5_cut 81 = .ok (.aload_n 0, 1) := by decide +kernel
theorem dX5_cut_82 : decode cX5_cut 82 = .ok (.dup, 1) := by decide +kernel
theorem dX5_cut_83 : decode cX5_cut 83 = .ok (.getfield 30, 3) := by decide +kernel
theorem dX5_cut_86 : decode cX5_cut 86 = .ok (.iconst 1, 1) := by decide +kernel
theorem dX5_cut_87 : decode cX5_cut 87 = .ok (.iadd, 1) := by decide +kernel
theorem dX5_cut_88 : decode cX5_cut 88 = .ok (.putfield 30, 3) := by decide +kernel
theorem dX5_cut_91 : decode cX5_cut 91 = .ok (.aload_n 0, 1) := by decide +kernel
theorem dX5_cut_92 : decode cX5_cut 92 = .ok (.aload_n 0, 1) := by decide +kernel
theorem dX5_cut_93 : decode cX5_cut 93 = .ok (.getfield 30, 3) := by decide +kernel
theorem dX5_cut_96 : decode cX5_cut 96 = .ok (.iconst 1, 1) := by decide +kernel
theorem dX5_cut_97 : decode cX5_cut 97 = .ok (.isub, 1) := by decide +kernel
theorem dX5_cut_98 : decode cX5_cut 98 = .ok (.iload_n 2, 1) := by decide +kernel
theorem dX5_cut_99 : decode cX5_cut 99 = .ok (.iload_n 1, 1) := by decide +kernel
theorem dX5_cut_100 : decode cX5_cut 100 = .ok (.invokevirtual 43, 3) := by decide +kernel
theorem dX5_cut_103 : decode cX5_cut 103 = .ok (.iconst 1, 1) := by decide +kernel
theorem dX5_cut_104 : decode cX5_cut 104 = .ok (.ireturn, 1) := by decide +kernel
theorem dX5_take_0 : decode cX5_take 0 = .ok (.aload_n 0, 1) := by decide +kernel
