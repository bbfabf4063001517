theorem dX12_paper_0 : decode cX12_paper 0 = .ok (.iload_n 1, 1) := by decide +kernel
theorem dX12_paper_1 : decode cX12_paper 1 = .ok (.i2l, 1) := by decide +kernel
theorem dX12_paper_2 : decode cX12_paper 2 = .ok (.ldc2_w 297, 3) := by decide +kernel
theorem dX12_paper_5 : decode cX12_paper 5 = .ok (.ldc2_w 299, 3) := by decide +kernel
theorem dX12_paper_8 : decode cX12_paper 8 = .ok (.invokestatic 205, 3) := by decide +kernel
theorem dX12_paper_11 : decode cX12_paper 11 = .ok (.ifCond .eq 91, 3) := by decide +kernel
theorem dX12_paper_14 : decode cX12_paper 14 = .ok (.iload_n 2, 1) := by decide +kernel
theorem dX12_paper_15 : decode cX12_paper 15 = .ok (.i2l, 1) := by decide +kernel
theorem dX12_paper_16 : decode cX12_paper 16 = .ok (.ldc2_w 301, 3) := by decide +kernel
theorem dX12_paper_19 : decode cX12_paper 19 = .ok (.ldc2_w 299, 3) := by decide +kernel
theorem dX12_paper_22 : decode cX12_paper 22 = .ok (.invokestatic 205, 3) := by decide +kernel
theorem dX12_paper_25 : decode cX12_paper 25 = .ok (.ifCond .eq 77, 3) := by decide +kernel
theorem dX12_paper_28 : decode cX12_paper 28 = .ok (.iload_n 3, 1) := by decide +kernel
theorem dX12_paper_29 : decode cX12_paper 29 = .ok (.i2l, 1) := by decide +kernel
theorem dX12_paper_30 : decode cX12_paper 30 = .ok (.lconst 0, 1) := by decide +kernel
theorem dX12_paper_31 : decode cX12_paper 31 = .ok (.ldc2_w 303, 3) := by decide +kernel
theorem dX12_paper_34 : decode cX12_paper 34 = .ok (.invokestatic 205, 3) := by decide +kernel
theorem dX12_paper_37 : decode cX12_paper 37 = .ok (.ifCond .eq 65, 3) := by decide +kernel
theorem dX12_paper_40 : decode cX12_paper 40 = .ok (.iload 4, 2) := by decide +kernel
theorem dX12_paper_42 : decode cX12_paper 42 = .ok (.i2l, 1) := by decide +kernel
theorem dX12_paper_43 : decode cX12_paper 43 = .ok (.ldc2_w 305, 3) := by decide +kernel
theorem dX12_paper_46 : decode cX12_paper 46 = .ok (.ldc2_w 307, 3) := by decide +kernel
theorem dX12_paper_49 : decode cX12_paper 49 = .ok (.invokestatic 205, 3) := by decide +kernel
theorem dX12_paper_52 : decode cX12_paper 52 = .ok (.ifCond .eq 50, 3) := by decide +kernel
theorem dX12_paper_55 : decode cX12_paper 55 = .ok (.iload 5, 2) := by decide +kernel
theorem dX12_paper_57 : decode cX12_paper 57 = .ok (.ifCond .lt 45, 3) := by decide +kernel
theorem dX12_paper_60 : decode cX12_paper 60 = .ok (.iload 5, 2) := by decide +kernel
theorem dX12_paper_62 : decode cX12_paper 62 = .ok (.sipush 1000, 3) := by decide +kernel
theorem dX12_paper_65 : decode cX12_paper 65 = .ok (.idiv, 1) := by decide +kernel
theorem dX12_paper_66 : decode cX12_paper 66 = .ok (.i2l, 1) := by decide +kernel
theorem dX12_paper_67 : decode cX12_paper 67 = .ok (.lconst 0, 1) := by decide +kernel
theorem dX12_paper_68 : decode cX12_paper 68 = .ok (.iload_n 2, 1) := by decide +kernel
theorem dX12_paper_69 : decode cX12_paper 69 = .ok (.iconst 1, 1) := by decide +kernel
theorem dX12_paper_70 : decode cX12_paper 70 = .ok (.isub, 1) := by decide +kernel
theorem dX12_paper_71 : decode cX12_paper 71 = .ok (.i2l, 1) := by decide +kernel
theorem dX12_paper_72 : decode cX12_paper 72 = .ok (.invokestatic 205, 3) := by decide +kernel
theorem dX12_paper_75 : decode cX12_paper 75 = .ok (.ifCond .eq 27, 3) := by decide +kernel
theorem dX12_paper_78 : decode cX12_paper 78 = .ok (.iload 5, 2) := by decide +kernel
theorem dX12_paper_80 : decode cX12_paper 80 = .ok (.sipush 1000, 3) := by decide +kernel
theorem dX12_paper_83 : decode cX12_paper 83 = .ok (.irem, 1) := by decide +kernel
theorem dX12_paper_84 : decode cX12_paper 84 = .ok (.i2l, 1) := by decide +kernel
theorem dX12_paper_85 : decode cX12_paper 85 = .ok (.lconst 1, 1) := by decide +kernel
theorem dX12_paper_86 : decode cX12_paper 86 = .ok (.iload_n 2, 1) := by decide +kernel
theorem dX12_paper_87 : decode cX12_paper 87 = .ok (.i2l, 1) := by decide +kernel
theorem dX12_paper_88 : decode cX12_paper 88 = .ok (.invokestatic 205, 3) := by decide +kernel
theorem dX12_paper_91 : decode cX12_paper 91 = .ok (.ifCond .eq 11, 3) := by decide +kernel
theorem dX12_paper_94 : decode cX12_paper 94 = .ok (.aload_n 0, 1) := by decide +kernel
theorem dX12_paper_95 : decode cX12_paper 95 = .ok (.getfield 309, 3) := by decide +kernel
theorem dX12_paper_98 : decode cX12_paper 98 = .ok (.iconst 4, 1) := by decide +kernel
theorem dX12_paper_99 : decode cX12_paper 99 = .ok (.if_icmp .ne 5, 3) := by decide +kernel
theorem dX12_paper_102 : decode cX12_paper 102 = .ok (.iconst (-1), 1) := by decide +kernel
theorem dX12_paper_103 : decode cX12_paper 103 = .ok (.ireturn, 1) := by decide +kernel
theorem dX12_paper_104 : decode cX12_paper 104 = .ok (.aload_n 0, 1) := by decide +kernel
theorem dX12_paper_105 : decode cX12_paper 105 = .ok (.getfield 85, 3) := by decide +kernel
theorem dX12_paper_108 : decode cX12_paper 108 = .ok (.aload_n 0, 1) := by decide +kernel
theorem dX12_paper_109 : decode cX12_paper 109 = .ok (.getfield 309, 3) := by decide +kernel
theorem dX12_paper_112 : decode cX12_paper 112 = .ok (.iload_n 1, 1) := by decide +kernel
theorem dX12_paper_113 : decode cX12_paper 113 = .ok (.iastore, 1) := by decide +kernel
theorem dX12_paper_114 : decode cX12_paper 114 = .ok (.aload_n 0, 1) := by decide +kernel
theorem dX12_paper_115 : decode cX12_paper 115 = .ok (.getfield 88, 3) := by decide +kernel
theorem dX12_paper_118 : decode cX12_paper 118 = .ok (.aload_n 0, 1) := by decide +kernel
theorem dX12_paper_119 : decode cX12_paper 119 = .ok (.getfield 309, 3) := by decide +kernel
theorem dX12_paper_122 : decode cX12_paper 122 = .ok (.iload_n 2, 1) := by decide +kernel
theorem dX12_paper_123 : decode cX12_paper 123 = .ok (.iastore, 1) := by decide +kernel
theorem dX12_paper_124 : decode cX12_paper 124 = .ok (.aload_n 0, 1) := by decide +kernel
theorem dX12_paper_125 : decode cX12_paper 125 = .ok (.getfield 91, 3) := by decide +kernel
theorem dX12_paper_128 : decode cX12_paper 128 = .ok (.aload_n 0, 1) := by decide +kernel
theorem dX12_paper_129 : decode cX12_paper 129 = .ok (.getfield 309, 3) := by decide +kernel
theorem dX12_paper_132 : decode cX12_paper 132 = .ok (.iload_n 3, 1) := by decide +kernel
theorem dX12_paper_133 : decode cX12_paper 133 = .ok (.iastore, 1) := by decide +kernel
theorem dX12_paper_134 : decode cX12_paper 134 = .ok (.aload_n 0, 1) := by decide +kernel
theorem dX12_paper_135 : decode cX12_paper 135 = .ok (.getfield 94, 3) := by decide +kernel
theorem dX12_paper_138 : decode cX12_paper 138 = .ok (.aload_n 0, 1) := by decide +kernel
theorem dX12_paper_139 : decode cX12_paper 139 = .ok (.getfield 309, 3) := by decide +kernel
theorem dX12_paper_142 : decode cX12_paper 142 = .ok (.iload 4, 2) := by decide +kernel
theorem dX12_paper_144 : decode cX12_paper 144 = .ok (.iastore, 1) := by decide +kernel
theorem dX12_paper_145 : decode cX12_paper 145 = .ok (.aload_n 0, 1) := by decide +kernel
theorem dX12_paper_146 : decode cX12_paper 146 = .ok (.getfield 97, 3) := by decide +kernel
theorem dX12_paper_149 : decode cX12_paper 149 = .ok (.aload_n 0, 1) := by decide +kernel
theorem dX12_paper_150 : decode cX12_paper 150 = .ok (.getfield 309, 3) := by decide +kernel
theorem dX12_paper_153 : decode cX12_paper 153 = .ok (.iload 5, 2) := by decide +kernel
theorem dX12_paper_155 : decode cX12_paper 155 = .ok (.sipush 1000, 3) := by decide +kernel
theorem dX12_paper_158 : decode cX12_paper 158 = .ok (.idiv, 1) := by decide +kernel
theorem dX12_paper_159 : decode cX12_paper 159 = .ok (.iastore, 1) := by decide +kernel
theorem dX12_paper_160 : decode cX12_paper 160 = .ok (.aload_n 0, 1) := by decide +kernel
theorem dX12_paper_161 : decode cX12_paper 161 = .ok (.getfield 100, 3) := by decide +kernel
theorem dX12_paper_164 : decode cX12_paper 164 = .ok (.aload_n 0, 1) := by decide +kernel
theorem dX12_paper_165 : decode cX12_paper 165 = .ok (.getfield 309, 3) := by decide +kernel
theorem dX12_paper_168 : decode cX12_paper 168 = .ok (.iload 5, 2) := by decide +kernel
theorem dX12_paper_170 : decode cX12_paper 170 = .ok (.sipush 1000, 3) := by decide +kernel
theorem dX12_paper_173 : decode cX12_paper 173 = .ok (.irem, 1) := by decide +kernel
theorem dX12_paper_174 : decode cX12_paper 174 = .ok (.iastore, 1) := by decide +kernel
theorem dX12_paper_175 : decode cX12_paper 175 = .ok (.aload_n 0, 1) := by decide +kernel
theorem dX12_paper_176 : decode cX12_paper 176 = .ok (.dup, 1) := by decide +kernel
theorem dX12_paper_177 : decode cX12_paper 177 = .ok (.getfield 309, 3) := by decide +kernel
theorem dX12_paper_180 : decode cX12_paper 180 = .ok (.iconst 1, 1) := by decide +kernel
theorem dX12_paper_181 : decode cX12_paper 181 = .ok (.iadd, 1) := by decide +kernel
theorem dX12_paper_182 : decode cX12_paper 182 = .ok (.putfield 309, 3) := by decide +kernel
theorem dX12_paper_185 : decode cX12_paper 185 = .ok (.aload_n 0, 1) := by decide +kernel
theorem dX12_paper_186 : decode cX12_paper 186 = .ok (.getfield 309, 3) := by decide +kernel
theorem dX12_paper_189 : decode cX12_paper 189 = .ok (.iconst 1, 1) := by decide +kernel
theorem dX12_paper_190 : decode cX12_paper 190 = .ok (.isub, 1) := by decide +kernel
theorem dX12_paper_191 : decode cX12_paper 191 = .ok (.ireturn, 1) := by decide +kernel
theorem dX12_done_0 : decode cX12_done 0 = .ok (.aload_n 0, 1) := by decide +kernel
theorem dX12_done_1 : decode cX12_done 1 = .ok (.iload_n 1, 1) := by decide +kernel
theorem dX12_done_2 : decode cX12_done 2 = .ok (.invokevirtual 284, 3) := by decide +kernel
theorem dX12_done_5 : decode cX12_done 5 = .ok (.ifCond .eq 48, 3) := by decide +kernel
theorem dX12_done_8 : decode cX12_done 8 = .ok (.aload_n 0, 1) := by decide +kernel
theorem dX12_done_9 : decode cX12_done 9 = .ok (.iload_n 2, 1) := by decide +kernel
theorem dX12_done_10 : decode cX12_done 10 = .ok (.invokevirtual 312, 3) := by decide +kernel
theorem dX12_done_13 : decode cX12_done 13 = .ok (.ifCond .eq 40, 3) := by decide +kernel
theorem dX12_done_16 : decode cX12_done 16 = .ok (.iload_n 3, 1) := by decide +kernel
theorem dX12_done_17 : decode cX12_done 17 = .ok (.i2l, 1) := by decide +kernel
theorem dX12_done_18 : decode cX12_done 18 = .ok (.lconst 0, 1) := by decide +kernel
theorem dX12_done_19 : decode cX12_done 19 = .ok (.aload_n 0, 1) := by decide +kernel
theorem dX12_done_20 : decode cX12_done 20 = .ok (.getfield 63, 3) := by decide +kernel
theorem dX12_done_23 : decode cX12_done 23 = .ok (.iload_n 1, 1) := by decide +kernel
theorem dX12_done_24 : decode cX12_done 24 = .ok (.iaload, 1) := by decide +kernel
theorem dX12_done_25 : decode cX12_done 25 = .ok (.iconst 1, 1) := by decide +kernel
theorem dX12_done_26 : decode cX12_done 26 = .ok (.isub, 1) := by decide +kernel
theorem dX12_done_27 : decode cX12_done 27 = .ok (.i2l, 1) := by decide +kernel
theorem dX12_done_28 : decode cX12_done 28 = .ok (.invokestatic 205, 3) := by decide +kernel
theorem dX12_done_31 : decode cX12_done 31 = .ok (.ifCond .eq 22, 3) := by decide +kernel
theorem dX12_done_34 : decode cX12_done 34 = .ok (.iload 4, 2) := by decide +kernel
theorem dX12_done_36 : decode cX12_done 36 = .ok (.i2l, 1) := by decide +kernel
theorem dX12_done_37 : decode cX12_done 37 = .ok (.lconst 0, 1) := by decide +kernel
theorem dX12_done_38 : decode cX12_done 38 = .ok (.aload_n 0, 1) := by decide +kernel
theorem dX12_done_39 : decode cX12_done 39 = .ok (.getfield 88, 3) := by decide +kernel
theorem dX12_done_42 : decode cX12_done 42 = .ok (.iload_n 2, 1) := by decide +kernel
theorem dX12_done_43 : decode cX12_done 43 = .ok (.iaload, 1) := by decide +kernel
theorem dX12_done_44 : decode cX12_done 44 = .ok (.iconst 1, 1) := by decide +kernel
theorem dX12_done_45 : decode cX12_done 45 = .ok (.isub, 1) := by decide +kernel
theorem dX12_done_46 : decode cX12_done 46 = .ok (.i2l, 1) := by decide +kernel
theorem dX12_done_47 : decode cX12_done 47 = .ok (.invokestatic 205, 3) := by decide +kernel
theorem dX12_done_50 : decode cX12_done 50 = .ok (.ifCond .ne 5, 3) := by decide +kernel
theorem dX12_done_53 : decode cX12_done 53 = .ok (.iconst (-1), 1) := by decide +kernel
theorem dX12_done_54 : decode cX12_done 54 = .ok (.ireturn, 1) := by decide +kernel
theorem dX12_done_55 : decode cX12_done 55 = .ok (.aload_n 0, 1) := by decide +kernel
theorem dX12_done_56 : decode cX12_done 56 = .ok (.getfield 107, 3) := by decide +kernel
theorem dX12_done_59 : decode cX12_done 59 = .ok (.iload_n 1, 1) := by decide +kernel
theorem dX12_done_60 : decode cX12_done 60 = .ok (.iload_n 2, 1) := by decide +kernel
theorem dX12_done_61 : decode cX12_done 61 = .ok (.iastore, 1) := by decide +kernel
theorem dX12_done_62 : decode cX12_done 62 = .ok (.aload_n 0, 1) := by decide +kernel
theorem dX12_done_63 : decode cX12_done 63 = .ok (.getfield 110, 3) := by decide +kernel
theorem dX12_done_66 : decode cX12_done 66 = .ok (.iload_n 1, 1) := by decide +kernel
theorem dX12_done_67 : decode cX12_done 67 = .ok (.iload_n 3, 1) := by decide +kernel
theorem dX12_done_68 : decode cX12_done 68 = .ok (.iastore, 1) := by decide +kernel
theorem dX12_done_69 : decode cX12_done 69 = .ok (.aload_n 0, 1) := by decide +kernel
theorem dX12_done_70 : decode cX12_done 70 = .ok (.getfield 113, 3) := by decide +kernel
theorem dX12_done_73 : decode cX12_done 73 = .ok (.iload_n 1, 1) := by decide +kernel
theorem dX12_done_74 : decode cX12_done 74 = .ok (.iload 4, 2) := by decide +kernel
theorem dX12_done_76 : decode cX12_done 76 = .ok (.iastore, 1) := by decide +kernel
theorem dX12_done_77 : decode cX12_done 77 = .ok (.aload_n 0, 1) := by decide +kernel
theorem dX12_done_78 : decode cX12_done 78 = .ok (.getfield 116, 3) := by decide +kernel
theorem dX12_done_81 : decode cX12_done 81 = .ok (.iload_n 1, 1) := by decide +kernel
theorem dX12_done_82 : decode cX12_done 82 = .ok (.iconst 0, 1) := by decide +kernel
theorem dX12_done_83 : decode cX12_done 83 = .ok (.iastore, 1) := by decide +kernel
theorem dX12_done_84 : decode cX12_done 84 = .ok (.aload_n 0, 1) := by decide +kernel
theorem dX12_done_85 : decode cX12_done 85 = .ok (.iload_n 1, 1) := by decide +kernel
theorem dX12_done_86 : decode cX12_done 86 = .ok (.iload_n 2, 1) := by decide +kernel
theorem dX12_done_87 : decode cX12_done 87 = .ok (.invokevirtual 315, 3) := by decide +kernel
theorem dX12_done_90 : decode cX12_done 90 = .ok (.ireturn, 1) := by decide +kernel
theorem dX12_of_0 : decode cX12_of 0 = .ok (.aload_n 0, 1) := by decide +kernel
theorem dX12_of_1 : decode cX12_of 1 = .ok (.iload_n 1, 1) := by decide +kernel
theorem dX12_of_2 : decode cX12_of 2 = .ok (.invokevirtual 284, 3) := by decide +kernel
theorem dX12_of_5 : decode cX12_of 5 = .ok (.ifCond .ne 5, 3) := by decide +kernel
theorem dX12_of_8 : decode cX12_of 8 = .ok (.iconst (-1), 1) := by decide +kernel
theorem dX12_of_9 : decode cX12_of 9 = .ok (.ireturn, 1) := by decide +kernel
theorem dX12_of_10 : decode cX12_of 10 = .ok (.iload_n 2, 1) := by decide +kernel
theorem dX12_of_11 : decode cX12_of 11 = .ok (.tableswitch 57 0 3 #[29, 36, 43, 50], 29) := by decide +kernel
theorem dX12_of_40 : decode cX12_of 40 = .ok (.aload_n 0, 1) := by decide +kernel
theorem dX12_of_41 : decode cX12_of 41 = .ok (.getfield 50, 3) := by decide +kernel
theorem dX12_of_44 : decode cX12_of 44 = .ok (.iload_n 1, 1) := by decide +kernel
theorem dX12_of_45 : decode cX12_of 45 = .ok (.iaload, 1) := by decide +kernel
theorem dX12_of_46 : decode cX12_of 46 = .ok (.ireturn, 1) := by decide +kernel
theorem dX12_of_47 : decode cX12_of 47 = .ok (.aload_n 0, 1) := by decide +kernel
theorem dX12_of_48 : decode cX12_of 48 = .ok (.getfield 54, 3) := by decide +kernel
theorem dX12_of_51 : decode cX12_of 51 = .ok (.iload_n 1, 1) := by decide +kernel
theorem dX12_of_52 : decode cX12_of 52 = .ok (.iaload, 1) := by decide +kernel
theorem dX12_of_53 : decode cX12_of 53 = .ok (.ireturn, 1) := by decide +kernel
theorem dX12_of_54 : decode cX12_of 54 = .ok (.aload_n 0, 1) := by decide +kernel
theorem dX12_of_55 : decode cX12_of 55 = .ok (.getfield 63, 3) := by decide +kernel
theorem dX12_of_58 : decode cX12_of 58 = .ok (.iload_n 1, 1) := by decide +kernel
theorem dX12_of_59 : decode cX12_of 59 = .ok (.iaload, 1) := by decide +kernel
theorem dX12_of_60 : decode cX12_of 60 = .ok (.ireturn, 1) := by decide +kernel
theorem dX12_of_61 : decode cX12_of 61 = .ok (.aload_n 0, 1) := by decide +kernel
theorem dX12_of_62 : decode cX12_of 62 = .ok (.getfield 57, 3) := by decide +kernel
theorem dX12_of_65 : decode cX12_of 65 = .ok (.iload_n 1, 1) := by decide +kernel
theorem dX12_of_66 : decode cX12_of 66 = .ok (.iaload, 1) := by decide +kernel
theorem dX12_of_67 : decode cX12_of 67 = .ok (.ireturn, 1) := by decide +kernel
theorem dX12_of_68 : decode cX12_of 68 = .ok (.aload_n 0, 1) := by decide +kernel
theorem dX12_of_69 : decode cX12_of 69 = .ok (.iload_n 1, 1) := by decide +kernel
theorem dX12_of_70 : decode cX12_of 70 = .ok (.invokevirtual 362, 3) := by decide +kernel
theorem dX12_of_73 : decode cX12_of 73 = .ok (.ifCond .eq 17, 3) := by decide +kernel
theorem dX12_of_76 : decode cX12_of 76 = .ok (.iload_n 2, 1) := by decide +kernel
theorem dX12_of_77 : decode cX12_of 77 = .ok (.i2l, 1) := by decide +kernel
theorem dX12_of_78 : decode cX12_of 78 = .ok (.ldc2_w 365, 3) := by decide +kernel
theorem dX12_of_81 : decode cX12_of 81 = .ok (.ldc2_w 367, 3) := by decide +kernel
theorem dX12_of_84 : decode cX12_of 84 = .ok (.invokestatic 205, 3) := by decide +kernel
theorem dX12_of_87 : decode cX12_of 87 = .ok (.ifCond .ne 5, 3) := by decide +kernel
theorem dX12_of_90 : decode cX12_of 90 = .ok (.iconst (-1), 1) := by decide +kernel
theorem dX12_of_91 : decode cX12_of 91 = .ok (.ireturn, 1) := by decide +kernel
theorem dX12_of_92 : decode cX12_of 92 = .ok (.aload_n 0, 1) := by decide +kernel
theorem dX12_of_93 : decode cX12_of 93 = .ok (.iload_n 1, 1) := by decide +kernel
theorem dX12_of_94 : decode cX12_of 94 = .ok (.invokevirtual 369, 3) := by decide +kernel
theorem dX12_of_97 : decode cX12_of 97 = .ok (.iload_n 2, 1) := by decide +kernel
theorem dX12_of_98 : decode cX12_of 98 = .ok (.tableswitch 63 4 8 #[34, 39, 46, 53, 58], 34) := by decide +kernel
theorem dX12_of_132 : decode cX12_of 132 = .ok (.aload_n 0, 1) := by decide +kernel
theorem dX12_of_133 : decode cX12_of 133 = .ok (.getfield 340, 3) := by decide +kernel
theorem dX12_of_136 : decode cX12_of 136 = .ok (.ireturn, 1) := by decide +kernel
theorem dX12_of_137 : decode cX12_of 137 = .ok (.aload_n 0, 1) := by decide +kernel
theorem dX12_of_138 : decode cX12_of 138 = .ok (.getfield 110, 3) := by decide +kernel
theorem dX12_of_141 : decode cX12_of 141 = .ok (.iload_n 1, 1) := by decide +kernel
theorem dX12_of_142 : decode cX12_of 142 = .ok (.iaload, 1) := by decide +kernel
theorem dX12_of_143 : decode cX12_of 143 = .ok (.ireturn, 1) := by decide +kernel
theorem dX12_of_144 : decode cX12_of 144 = .ok (.aload_n 0, 1) := by decide +kernel
theorem dX12_of_145 : decode cX12_of 145 = .ok (.getfield 113, 3) := by decide +kernel
theorem dX12_of_148 : decode cX12_of 148 = .ok (.iload_n 1, 1) := by decide +kernel
theorem dX12_of_149 : decode cX12_of 149 = .ok (.iaload, 1) := by decide +kernel
theorem dX12_of_150 : decode cX12_of 150 = .ok (.ireturn, 1) := by decide +kernel
theorem dX12_of_151 : decode cX12_of 151 = .ok (.aload_n 0, 1) := by decide +kernel
theorem dX12_of_152 : decode cX12_of 152 = .ok (.getfield 343, 3) := by decide +kernel
theorem dX12_of_155 : decode cX12_of 155 = .ok (.ireturn, 1) := by decide +kernel
theorem dX12_of_156 : decode cX12_of 156 = .ok (.aload_n 0, 1) := by decide +kernel
theorem dX12_of_157 : decode cX12_of 157 = .ok (.getfield 333, 3) := by decide +kernel
theorem dX12_of_160 : decode cX12_of 160 = .ok (.ireturn, 1) := by decide +kernel
theorem dX12_of_161 : decode cX12_of 161 = .ok (.aload_n 0, 1) := by decide +kernel
theorem dX12_of_162 : decode cX12_of 162 = .ok (.getfield 116, 3) := by decide +kernel
theorem dX12_of_165 : decode cX12_of 165 = .ok (.iload_n 1, 1) := by decide +kernel
theorem dX12_of_166 : decode cX12_of 166 = .ok (.iaload, 1) := by decide +kernel
theorem dX12_of_167 : decode cX12_of 167 = .ok (.ireturn, 1) := by decide +kernel
theorem dX12_shared_0 : decode cX12_shared 0 = .ok (.aload_n 0, 1) := by decide +kernel
theorem dX12_shared_1 : decode cX12_shared 1 = .ok (.iload_n 1, 1) := by decide +kernel
theorem dX12_shared_2 : decode cX12_shared 2 = .ok (.invokevirtual 362, 3) := by decide +kernel
theorem dX12_shared_5 : decode cX12_shared 5 = .ok (.ifCond .eq 26, 3) := by decide +kernel
theorem dX12_shared_8 : decode cX12_shared 8 = .ok (.iload_n 2, 1) := by decide +kernel
theorem dX12_shared_9 : decode cX12_shared 9 = .ok (.iconst (-1), 1) := by decide +kernel
theorem dX12_shared_10 : decode cX12_shared 10 = .ok (.if_icmp .eq 23, 3) := by decide +kernel
theorem dX12_shared_13 : decode cX12_shared 13 = .ok (.iload_n 2, 1) := by decide +kernel
theorem dX12_shared_14 : decode cX12_shared 14 = .ok (.i2l, 1) := by decide +kernel
theorem dX12_shared_15 : decode cX12_shared 15 = .ok (.lconst 0, 1) := by decide +kernel
theorem dX12_shared_16 : decode cX12_shared 16 = .ok (.aload_n 0, 1) := by decide +kernel
theorem dX12_shared_17 : decode cX12_shared 17 = .ok (.getfield 50, 3) := by decide +kernel
theorem dX12_shared_20 : decode cX12_shared 20 = .ok (.iload_n 1, 1) := by decide +kernel
theorem dX12_shared_21 : decode cX12_shared 21 = .ok (.iaload, 1) := by decide +kernel
theorem dX12_shared_22 : decode cX12_shared 22 = .ok (.iconst 1, 1) := by decide +kernel
theorem dX12_shared_23 : decode cX12_shared 23 = .ok (.isub, 1) := by decide +kernel
theorem dX12_shared_24 : decode cX12_shared 24 = .ok (.i2l, 1) := by decide +kernel
theorem dX12_shared_25 : decode cX12_shared 25 = .ok (.invokestatic 205, 3) := by decide +kernel
theorem dX12_shared_28 : decode cX12_shared 28 = .ok (.ifCond .ne 5, 3) := by decide +kernel
theorem dX12_shared_31 : decode cX12_shared 31 = .ok (.iconst (-1), 1) := by decide +kernel
theorem dX12_shared_32 : decode cX12_shared 32 = .ok (.ireturn, 1) := by decide +kernel
theorem dX12_shared_33 : decode cX12_shared 33 = .ok (.aload_n 0, 1) := by decide +kernel
theorem dX12_shared_34 : decode cX12_shared 34 = .ok (.iload_n 1, 1) := by decide +kernel
theorem dX12_shared_35 : decode cX12_shared 35 = .ok (.invokevirtual 369, 3) := by decide +kernel
theorem dX12_shared_38 : decode cX12_shared 38 = .ok (.iconst 0, 1) := by decide +kernel
theorem dX12_shared_39 : decode cX12_shared 39 = .ok (.istore_n 3, 1) := by decide +kernel
theorem dX12_shared_40 : decode cX12_shared 40 = .ok (.iload_n 3, 1) := by decide +kernel
theorem dX12_shared_41 : decode cX12_shared 41 = .ok (.aload_n 0, 1) := by decide +kernel
theorem dX12_shared_42 : decode cX12_shared 42 = .ok (.getfield 50, 3) := by decide +kernel
theorem dX12_shared_45 : decode cX12_shared 45 = .ok (.iload_n 1, 1) := by decide +kernel
theorem dX12_shared_46 : decode cX12_shared 46 = .ok (.iaload, 1) := by decide +kernel
theorem dX12_shared_47 : decode cX12_shared 47 = .ok (.if_icmp .ge 33, 3) := by decide +kernel
theorem dX12_shared_50 : decode cX12_shared 50 = .ok (.aload_n 0, 1) := by decide +kernel
theorem dX12_shared_51 : decode cX12_shared 51 = .ok (.getfield 161, 3) := by decide +kernel
theorem dX12_shared_54 : decode cX12_shared 54 = .ok (.iload_n 3, 1) := by decide +kernel
theorem dX12_shared_55 : decode cX12_shared 55 = .ok (.aload_n 0, 1) := by decide +kernel
theorem dX12_shared_56 : decode cX12_shared 56 = .ok (.iload_n 1, 1) := by decide +kernel
theorem dX12_shared_57 : decode cX12_shared 57 = .ok (.iload_n 3, 1) := by decide +kernel
theorem dX12_shared_58 : decode cX12_shared 58 = .ok (.invokevirtual 437, 3) := by decide +kernel
theorem dX12_shared_61 : decode cX12_shared 61 = .ok (.iastore, 1) := by decide +kernel
theorem dX12_shared_62 : decode cX12_shared 62 = .ok (.aload_n 0, 1) := by decide +kernel
theorem dX12_shared_63 : decode cX12_shared 63 = .ok (.getfield 161, 3) := by decide +kernel
theorem dX12_shared_66 : decode cX12_shared 66 = .ok (.iload_n 3, 1) := by decide +kernel
theorem dX12_shared_67 : decode cX12_shared 67 = .ok (.iaload, 1) := by decide +kernel
theorem dX12_shared_68 : decode cX12_shared 68 = .ok (.iconst (-1), 1) := by decide +kernel
theorem dX12_shared_69 : decode cX12_shared 69 = .ok (.if_icmp .ne 5, 3) := by decide +kernel
theorem dX12_shared_72 : decode cX12_shared 72 = .ok (.iconst (-1), 1) := by decide +kernel
theorem dX12_shared_73 : decode cX12_shared 73 = .ok (.ireturn, 1) := by decide +kernel
theorem dX12_shared_74 : decode cX12_shared 74 = .ok (.iinc 3 1, 3) := by decide +kernel
theorem dX12_shared_77 : decode cX12_shared 77 = .ok (.goto (-37), 3) := by decide +kernel
theorem dX12_shared_80 : decode cX12_shared 80 = .ok (.iconst 0, 1) := by decide +kernel
theorem dX12_shared_81 : decode cX12_shared 81 = .ok (.istore_n 3, 1) := by decide +kernel
theorem dX12_shared_82 : decode cX12_shared 82 = .ok (.iload_n 3, 1) := by decide +kernel
theorem dX12_shared_83 : decode cX12_shared 83 = .ok (.iconst 4, 1) := by decide +kernel
theorem dX12_shared_84 : decode cX12_shared 84 = .ok (.if_icmp .ge 16, 3) := by decide +kernel
theorem dX12_shared_87 : decode cX12_shared 87 = .ok (.aload_n 0, 1) := by decide +kernel
theorem dX12_shared_88 : decode cX12_shared 88 = .ok (.getfield 170, 3) := by decide +kernel
theorem dX12_shared_91 : decode cX12_shared 91 = .ok (.iload_n 3, 1) := by decide +kernel
theorem dX12_shared_92 : decode cX12_shared 92 = .ok (.iconst 0, 1) := by decide +kernel
theorem dX12_shared_93 : decode cX12_shared 93 = .ok (.iastore, 1) := by decide +kernel
theorem dX12_shared_94 : decode cX12_shared 94 = .ok (.iinc 3 1, 3) := by decide +kernel
theorem dX12_shared_97 : decode cX12_shared 97 = .ok (.goto (-15), 3) := by decide +kernel
theorem dX12_shared_100 : decode cX12_shared 100 = .ok (.aload_n 0, 1) := by decide +kernel
theorem dX12_shared_101 : decode cX12_shared 101 = .ok (.iconst (-1), 1) := by decide +kernel
theorem dX12_shared_102 : decode cX12_shared 102 = .ok (.putfield 443, 3) := by decide +kernel
theorem dX12_shared_105 : decode cX12_shared 105 = .ok (.aload_n 0, 1) := by decide +kernel
theorem dX12_shared_106 : decode cX12_shared 106 = .ok (.iload_n 1, 1) := by decide +kernel
theorem dX12_shared_107 : decode cX12_shared 107 = .ok (.iconst 0, 1) := by decide +kernel
theorem dX12_shared_108 : decode cX12_shared 108 = .ok (.invokevirtual 446, 3) := by decide +kernel
theorem dX12_shared_111 : decode cX12_shared 111 = .ok (.iload_n 2, 1) := by decide +kernel
theorem dX12_shared_112 : decode cX12_shared 112 = .ok (.iconst (-1), 1) := by decide +kernel
theorem dX12_shared_113 : decode cX12_shared 113 = .ok (.if_icmp .eq 11, 3) := by decide +kernel
theorem dX12_shared_116 : decode cX12_shared 116 = .ok (.aload_n 0, 1) := by decide +kernel
theorem dX12_shared_117 : decode cX12_shared 117 = .ok (.getfield 443, 3) := by decide +kernel
theorem dX12_shared_120 : decode cX12_shared 120 = .ok (.iconst (-1), 1) := by decide +kernel
theorem dX12_shared_121 : decode cX12_shared 121 = .ok (.if_icmp .ne 10, 3) := by decide +kernel
theorem dX12_shared_124 : decode cX12_shared 124 = .ok (.aload_n 0, 1) := by decide +kernel
theorem dX12_shared_125 : decode cX12_shared 125 = .ok (.getfield 443, 3) := by decide +kernel
theorem dX12_shared_128 : decode cX12_shared 128 = .ok (.goto 9, 3) := by decide +kernel
theorem dX12_shared_131 : decode cX12_shared 131 = .ok (.aload_n 0, 1) := by decide +kernel
theorem dX12_shared_132 : decode cX12_shared 132 = .ok (.getfield 167, 3) := by decide +kernel
theorem dX12_shared_135 : decode cX12_shared 135 = .ok (.iload_n 2, 1) := by decide +kernel
theorem dX12_shared_136 : decode cX12_shared 136 = .ok (.iaload, 1) := by decide +kernel
theorem dX12_shared_137 : decode cX12_shared 137 = .ok (.ireturn, 1) := by decide +kernel
theorem dX12_keep_0 : decode cX12_keep 0 = .ok (.aload_n 0, 1) := by decide +kernel
theorem dX12_keep_1 : decode cX12_keep 1 = .ok (.iload_n 1, 1) := by decide +kernel
theorem dX12_keep_2 : decode cX12_keep 2 = .ok (.invokevirtual 312, 3) := by decide +kernel
theorem dX12_keep_5 : decode cX12_keep 5 = .ok (.ifCond .eq 42, 3) := by decide +kernel
theorem dX12_keep_8 : decode cX12_keep 8 = .ok (.iload_n 2, 1) := by decide +kernel
theorem dX12_keep_9 : decode cX12_keep 9 = .ok (.i2l, 1) := by decide +kernel
theorem dX12_keep_10 : decode cX12_keep 10 = .ok (.lconst 1, 1) := by decide +kernel
theorem dX12_keep_11 : decode cX12_keep 11 = .ok (.ldc2_w 307, 3) := by decide +kernel
theorem dX12_keep_14 : decode cX12_keep 14 = .ok (.invokestatic 205, 3) := by decide +kernel
theorem dX12_keep_17 : decode cX12_keep 17 = .ok (.ifCond .eq 30, 3) := by decide +kernel
theorem dX12_keep_20 : decode cX12_keep 20 = .ok (.iload_n 3, 1) := by decide +kernel
theorem dX12_keep_21 : decode cX12_keep 21 = .ok (.i2l, 1) := by decide +kernel
theorem dX12_keep_22 : decode cX12_keep 22 = .ok (.lconst 0, 1) := by decide +kernel
theorem dX12_keep_23 : decode cX12_keep 23 = .ok (.aload_n 0, 1) := by decide +kernel
theorem dX12_keep_24 : decode cX12_keep 24 = .ok (.getfield 88, 3) := by decide +kernel
theorem dX12_keep_27 : decode cX12_keep 27 = .ok (.iload_n 1, 1) := by decide +kernel
theorem dX12_keep_28 : decode cX12_keep 28 = .ok (.iaload, 1) := by decide +kernel
theorem dX12_keep_29 : decode cX12_keep 29 = .ok (.iconst 1, 1) := by decide +kernel
theorem dX12_keep_30 : decode cX12_keep 30 = .ok (.isub, 1) := by decide +kernel
theorem dX12_keep_31 : decode cX12_keep 31 = .ok (.i2l, 1) := by decide +kernel
theorem dX12_keep_32 : decode cX12_keep 32 = .ok (.invokestatic 205, 3) := by decide +kernel
theorem dX12_keep_35 : decode cX12_keep 35 = .ok (.ifCond .eq 12, 3) := by decide +kernel
theorem dX12_keep_38 : decode cX12_keep 38 = .ok (.aload_n 0, 1) := by decide +kernel
theorem dX12_keep_39 : decode cX12_keep 39 = .ok (.getfield 449, 3) := by decide +kernel
theorem dX12_keep_42 : decode cX12_keep 42 = .ok (.bipush 10, 2) := by decide +kernel
theorem dX12_keep_44 : decode cX12_keep 44 = .ok (.if_icmp .ne 5, 3) := by decide +kernel
theorem dX12_keep_47 : decode cX12_keep 47 = .ok (.iconst (-1), 1) := by decide +kernel
theorem dX12_keep_48 : decode cX12_keep 48 = .ok (.ireturn, 1) := by decide +kernel
theorem dX12_keep_49 : decode cX12_keep 49 = .ok (.aload_n 0, 1) := by decide +kernel
theorem dX12_keep_50 : decode cX12_keep 50 = .ok (.getfield 173, 3) := by decide +kernel
theorem dX12_keep_53 : decode cX12_keep 53 = .ok (.aload_n 0, 1) := by decide +kernel
theorem dX12_keep_54 : decode cX12_keep 54 = .ok (.getfield 449, 3) := by decide +kernel
theorem dX12_keep_57 : decode cX12_keep 57 = .ok (.iload_n 1, 1) := by decide +kernel
theorem dX12_keep_58 : decode cX12_keep 58 = .ok (.iastore, 1) := by decide +kernel
theorem dX12_keep_59 : decode cX12_keep 59 = .ok (.aload_n 0, 1) := by decide +kernel
theorem dX12_keep_60 : decode cX12_keep 60 = .ok (.getfield 176, 3) := by decide +kernel
theorem dX12_keep_63 : decode cX12_keep 63 = .ok (.aload_n 0, 1) := by decide +kernel
theorem dX12_keep_64 : decode cX12_keep 64 = .ok (.getfield 449, 3) := by decide +kernel
theorem dX12_keep_67 : decode cX12_keep 67 = .ok (.iload_n 2, 1) := by decide +kernel
theorem dX12_keep_68 : decode cX12_keep 68 = .ok (.iastore, 1) := by decide +kernel
theorem dX12_keep_69 : decode cX12_keep 69 = .ok (.aload_n 0, 1) := by decide +kernel
theorem dX12_keep_70 : decode cX12_keep 70 = .ok (.getfield 179, 3) := by decide +kernel
theorem dX12_keep_73 : decode cX12_keep 73 = .ok (.aload_n 0, 1) := by decide +kernel
theorem dX12_keep_74 : decode cX12_keep 74 = .ok (.getfield 449, 3) := by decide +kernel
theorem dX12_keep_77 : decode cX12_keep 77 = .ok (.iload_n 3, 1) := by decide +kernel
theorem dX12_keep_78 : decode cX12_keep 78 = .ok (.iastore, 1) := by decide +kernel
theorem dX12_keep_79 : decode cX12_keep 79 = .ok (.aload_n 0, 1) := by decide +kernel
theorem dX12_keep_80 : decode cX12_keep 80 = .ok (.dup, 1) := by decide +kernel
theorem dX12_keep_81 : decode cX12_keep 81 = .ok (.getfield 449, 3) := by decide +kernel
theorem dX12_keep_84 : decode cX12_keep 84 = .ok (.iconst 1, 1) := by decide +kernel
theorem dX12_keep_85 : decode cX12_keep 85 = .ok (.iadd, 1) := by decide +kernel
theorem dX12_keep_86 : decode cX12_keep 86 = .ok (.putfield 449, 3) := by decide +kernel
theorem dX12_keep_89 : decode cX12_keep 89 = .ok (.aload_n 0, 1) := by decide +kernel
theorem dX12_keep_90 : decode cX12_keep 90 = .ok (.getfield 449, 3) := by decide +kernel
theorem dX12_keep_93 : decode cX12_keep 93 = .ok (.iconst 1, 1) := by decide +kernel
theorem dX12_keep_94 : decode cX12_keep 94 = .ok (.isub, 1) := by decide +kernel
theorem dX12_keep_95 : decode cX12_keep 95 = .ok (.ireturn, 1) := by decide +kernel
theorem dX12_canCut_0 : decode cX12_canCut 0 = .ok (.aload_n 0, 1) := by decide +kernel
theorem dX12_canCut_1 : decode cX12_canCut 1 = .ok (.getfield 173, 3) := by decide +kernel
theorem dX12_canCut_4 : decode cX12_canCut 4 = .ok (.iload_n 3, 1) := by decide +kernel
theorem dX12_canCut_5 : decode cX12_canCut 5 = .ok (.iaload, 1) := by decide +kernel
theorem dX12_canCut_6 : decode cX12_canCut 6 = .ok (.aload_n 0, 1) := by decide +kernel
theorem dX12_canCut_7 : decode cX12_canCut 7 = .ok (.getfield 340, 3) := by decide +kernel
theorem dX12_canCut_10 : decode cX12_canCut 10 = .ok (.if_icmp .eq 5, 3) := by decide +kernel
theorem dX12_canCut_13 : decode cX12_canCut 13 = .ok (.iconst 0, 1) := by decide +kernel
theorem dX12_canCut_14 : decode cX12_canCut 14 = .ok (.ireturn, 1) := by decide +kernel
theorem dX12_canCut_15 : decode cX12_canCut 15 = .ok (.aload_n 0, 1) := by decide +kernel
theorem dX12_canCut_16 : decode cX12_canCut 16 = .ok (.getfield 91, 3) := by decide +kernel
theorem dX12_canCut_19 : decode cX12_canCut 19 = .ok (.aload_n 0, 1) := by decide +kernel
theorem dX12_canCut_20 : decode cX12_canCut 20 = .ok (.getfield 340, 3) := by decide +kernel
theorem dX12_canCut_23 : decode cX12_canCut 23 = .ok (.iaload, 1) := by decide +kernel
theorem dX12_canCut_24 : decode cX12_canCut 24 = .ok (.iconst 2, 1) := by decide +kernel
theorem dX12_canCut_25 : decode cX12_canCut 25 = .ok (.if_icmp .ne 7, 3) := by decide +kernel
theorem dX12_canCut_28 : decode cX12_canCut 28 = .ok (.iconst 0, 1) := by decide +kernel
theorem dX12_canCut_29 : decode cX12_canCut 29 = .ok (.goto 28, 3) := by decide +kernel
theorem dX12_canCut_32 : decode cX12_canCut 32 = .ok (.aload_n 0, 1) := by decide +kernel
theorem dX12_canCut_33 : decode cX12_canCut 33 = .ok (.iload_n 1, 1) := by decide +kernel
theorem dX12_canCut_34 : decode cX12_canCut 34 = .ok (.iload_n 2, 1) := by decide +kernel
theorem dX12_canCut_35 : decode cX12_canCut 35 = .ok (.invokevirtual 372, 3) := by decide +kernel
theorem dX12_canCut_38 : decode cX12_canCut 38 = .ok (.aload_n 0, 1) := by decide +kernel
theorem dX12_canCut_39 : decode cX12_canCut 39 = .ok (.getfield 179, 3) := by decide +kernel
theorem dX12_canCut_42 : decode cX12_canCut 42 = .ok (.iload_n 3, 1) := by decide +kernel
theorem dX12_canCut_43 : decode cX12_canCut 43 = .ok (.iaload, 1) := by decide +kernel
theorem dX12_canCut_44 : decode cX12_canCut 44 = .ok (.isub, 1) := by decide +kernel
theorem dX12_canCut_45 : decode cX12_canCut 45 = .ok (.aload_n 0, 1) := by decide +kernel
