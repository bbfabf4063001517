theorem dX12_in_0 : decode cX12_in 0 = .ok (.lload_n 0, 1) := by decide +kernel
theorem dX12_in_1 : decode cX12_in 1 = .ok (.lload_n 2, 1) := by decide +kernel
theorem dX12_in_2 : decode cX12_in 2 = .ok (.lcmp, 1) := by decide +kernel
theorem dX12_in_3 : decode cX12_in 3 = .ok (.ifCond .lt 14, 3) := by decide +kernel
theorem dX12_in_6 : decode cX12_in 6 = .ok (.lload_n 0, 1) := by decide +kernel
theorem dX12_in_7 : decode cX12_in 7 = .ok (.lload 4, 2) := by decide +kernel
theorem dX12_in_9 : decode cX12_in 9 = .ok (.lcmp, 1) := by decide +kernel
theorem dX12_in_10 : decode cX12_in 10 = .ok (.ifCond .gt 7, 3) := by decide +kernel
theorem dX12_in_13 : decode cX12_in 13 = .ok (.iconst 1, 1) := by decide +kernel
theorem dX12_in_14 : decode cX12_in 14 = .ok (.goto 4, 3) := by decide +kernel
theorem dX12_in_17 : decode cX12_in 17 = .ok (.iconst 0, 1) := by decide +kernel
theorem dX12_in_18 : decode cX12_in 18 = .ok (.ireturn, 1) := by decide +kernel
theorem dX12_feeds_0 : decode cX12_feeds 0 = .ok (.iconst 3, 1) := by decide +kernel
theorem dX12_feeds_1 : decode cX12_feeds 1 = .ok (.istore_n 2, 1) := by decide +kernel
theorem dX12_feeds_2 : decode cX12_feeds 2 = .ok (.iload_n 2, 1) := by decide +kernel
theorem dX12_feeds_3 : decode cX12_feeds 3 = .ok (.ifCond .lt 35, 3) := by decide +kernel
theorem dX12_feeds_6 : decode cX12_feeds 6 = .ok (.aload_n 0, 1) := by decide +kernel
theorem dX12_feeds_7 : decode cX12_feeds 7 = .ok (.getfield 66, 3) := by decide +kernel
theorem dX12_feeds_10 : decode cX12_feeds 10 = .ok (.aload_n 0, 1) := by decide +kernel
theorem dX12_feeds_11 : decode cX12_feeds 11 = .ok (.getfield 198, 3) := by decide +kernel
theorem dX12_feeds_14 : decode cX12_feeds 14 = .ok (.iload_n 1, 1) := by decide +kernel
theorem dX12_feeds_15 : decode cX12_feeds 15 = .ok (.bipush 8, 2) := by decide +kernel
theorem dX12_feeds_17 : decode cX12_feeds 17 = .ok (.iload_n 2, 1) := by decide +kernel
theorem dX12_feeds_18 : decode cX12_feeds 18 = .ok (.imul, 1) := by decide +kernel
theorem dX12_feeds_19 : decode cX12_feeds 19 = .ok (.iushr, 1) := by decide +kernel
theorem dX12_feeds_20 : decode cX12_feeds 20 = .ok (.i2b, 1) := by decide +kernel
theorem dX12_feeds_21 : decode cX12_feeds 21 = .ok (.bastore, 1) := by decide +kernel
theorem dX12_feeds_22 : decode cX12_feeds 22 = .ok (.aload_n 0, 1) := by decide +kernel
theorem dX12_feeds_23 : decode cX12_feeds 23 = .ok (.dup, 1) := by decide +kernel
theorem dX12_feeds_24 : decode cX12_feeds 24 = .ok (.getfield 198, 3) := by decide +kernel
theorem dX12_feeds_27 : decode cX12_feeds 27 = .ok (.iconst 1, 1) := by decide +kernel
theorem dX12_feeds_28 : decode cX12_feeds 28 = .ok (.iadd, 1) := by decide +kernel
theorem dX12_feeds_29 : decode cX12_feeds 29 = .ok (.putfield 198, 3) := by decide +kernel
theorem dX12_feeds_32 : decode cX12_feeds 32 = .ok (.iinc 2 (-1), 3) := by decide +kernel
theorem dX12_feeds_35 : decode cX12_feeds 35 = .ok (.goto (-33), 3) := by decide +kernel
theorem dX12_feeds_38 : decode cX12_feeds 38 = .ok (.return_, 1) := by decide +kernel
theorem dX12_feed_0 : decode cX12_feed 0 = .ok (.aload_n 0, 1) := by decide +kernel
theorem dX12_feed_1 : decode cX12_feed 1 = .ok (.getfield 198, 3) := by decide +kernel
theorem dX12_feed_4 : decode cX12_feed 4 = .ok (.bipush 20, 2) := by decide +kernel
theorem dX12_feed_6 : decode cX12_feed 6 = .ok (.iadd, 1) := by decide +kernel
theorem dX12_feed_7 : decode cX12_feed 7 = .ok (.sipush 400, 3) := by decide +kernel
theorem dX12_feed_10 : decode cX12_feed 10 = .ok (.if_icmp .le 5, 3) := by decide +kernel
theorem dX12_feed_13 : decode cX12_feed 13 = .ok (.iconst (-1), 1) := by decide +kernel
theorem dX12_feed_14 : decode cX12_feed 14 = .ok (.ireturn, 1) := by decide +kernel
theorem dX12_feed_15 : decode cX12_feed 15 = .ok (.aload_n 0, 1) := by decide +kernel
theorem dX12_feed_16 : decode cX12_feed 16 = .ok (.iload_n 1, 1) := by decide +kernel
theorem dX12_feed_17 : decode cX12_feed 17 = .ok (.invokevirtual 201, 3) := by decide +kernel
theorem dX12_feed_20 : decode cX12_feed 20 = .ok (.aload_n 0, 1) := by decide +kernel
theorem dX12_feed_21 : decode cX12_feed 21 = .ok (.iload_n 2, 1) := by decide +kernel
theorem dX12_feed_22 : decode cX12_feed 22 = .ok (.invokevirtual 201, 3) := by decide +kernel
theorem dX12_feed_25 : decode cX12_feed 25 = .ok (.aload_n 0, 1) := by decide +kernel
theorem dX12_feed_26 : decode cX12_feed 26 = .ok (.iload_n 3, 1) := by decide +kernel
theorem dX12_feed_27 : decode cX12_feed 27 = .ok (.invokevirtual 201, 3) := by decide +kernel
theorem dX12_feed_30 : decode cX12_feed 30 = .ok (.aload_n 0, 1) := by decide +kernel
theorem dX12_feed_31 : decode cX12_feed 31 = .ok (.iload 4, 2) := by decide +kernel
theorem dX12_feed_33 : decode cX12_feed 33 = .ok (.invokevirtual 201, 3) := by decide +kernel
theorem dX12_feed_36 : decode cX12_feed 36 = .ok (.aload_n 0, 1) := by decide +kernel
theorem dX12_feed_37 : decode cX12_feed 37 = .ok (.iload 5, 2) := by decide +kernel
theorem dX12_feed_39 : decode cX12_feed 39 = .ok (.invokevirtual 201, 3) := by decide +kernel
theorem dX12_feed_42 : decode cX12_feed 42 = .ok (.aload_n 0, 1) := by decide +kernel
theorem dX12_feed_43 : decode cX12_feed 43 = .ok (.getfield 198, 3) := by decide +kernel
theorem dX12_feed_46 : decode cX12_feed 46 = .ok (.ireturn, 1) := by decide +kernel
theorem dX12_end_0 : decode cX12_end 0 = .ok (.iload_n 1, 1) := by decide +kernel
theorem dX12_end_1 : decode cX12_end 1 = .ok (.i2l, 1) := by decide +kernel
theorem dX12_end_2 : decode cX12_end 2 = .ok (.lconst 0, 1) := by decide +kernel
theorem dX12_end_3 : decode cX12_end 3 = .ok (.aload_n 0, 1) := by decide +kernel
theorem dX12_end_4 : decode cX12_end 4 = .ok (.getfield 198, 3) := by decide +kernel
theorem dX12_end_7 : decode cX12_end 7 = .ok (.i2l, 1) := by decide +kernel
theorem dX12_end_8 : decode cX12_end 8 = .ok (.invokestatic 205, 3) := by decide +kernel
theorem dX12_end_11 : decode cX12_end 11 = .ok (.ifCond .ne 5, 3) := by decide +kernel
theorem dX12_end_14 : decode cX12_end 14 = .ok (.iconst 0, 1) := by decide +kernel
theorem dX12_end_15 : decode cX12_end 15 = .ok (.ireturn, 1) := by decide +kernel
theorem dX12_end_16 : decode cX12_end 16 = .ok (.aload_n 0, 1) := by decide +kernel
theorem dX12_end_17 : decode cX12_end 17 = .ok (.iload_n 1, 1) := by decide +kernel
theorem dX12_end_18 : decode cX12_end 18 = .ok (.putfield 198, 3) := by decide +kernel
theorem dX12_end_21 : decode cX12_end 21 = .ok (.iconst 1, 1) := by decide +kernel
theorem dX12_end_22 : decode cX12_end 22 = .ok (.ireturn, 1) := by decide +kernel
theorem dX12_between_0 : decode cX12_between 0 = .ok (.iload_n 1, 1) := by decide +kernel
theorem dX12_between_1 : decode cX12_between 1 = .ok (.aload_n 0, 1) := by decide +kernel
theorem dX12_between_2 : decode cX12_between 2 = .ok (.getfield 198, 3) := by decide +kernel
theorem dX12_between_5 : decode cX12_between 5 = .ok (.if_icmp .ge 27, 3) := by decide +kernel
theorem dX12_between_8 : decode cX12_between 8 = .ok (.aload_n 0, 1) := by decide +kernel
theorem dX12_between_9 : decode cX12_between 9 = .ok (.getfield 66, 3) := by decide +kernel
theorem dX12_between_12 : decode cX12_between 12 = .ok (.iload_n 1, 1) := by decide +kernel
theorem dX12_between_13 : decode cX12_between 13 = .ok (.baload, 1) := by decide +kernel
theorem dX12_between_14 : decode cX12_between 14 = .ok (.iload_n 2, 1) := by decide +kernel
theorem dX12_between_15 : decode cX12_between 15 = .ok (.if_icmp .lt 17, 3) := by decide +kernel
theorem dX12_between_18 : decode cX12_between 18 = .ok (.aload_n 0, 1) := by decide +kernel
theorem dX12_between_19 : decode cX12_between 19 = .ok (.getfield 66, 3) := by decide +kernel
theorem dX12_between_22 : decode cX12_between 22 = .ok (.iload_n 1, 1) := by decide +kernel
theorem dX12_between_23 : decode cX12_between 23 = .ok (.baload, 1) := by decide +kernel
theorem dX12_between_24 : decode cX12_between 24 = .ok (.iload_n 3, 1) := by decide +kernel
theorem dX12_between_25 : decode cX12_between 25 = .ok (.if_icmp .gt 7, 3) := by decide +kernel
theorem dX12_between_28 : decode cX12_between 28 = .ok (.iconst 1, 1) := by decide +kernel
theorem dX12_between_29 : decode cX12_between 29 = .ok (.goto 4, 3) := by decide +kernel
theorem dX12_between_32 : decode cX12_between 32 = .ok (.iconst 0, 1) := by decide +kernel
theorem dX12_between_33 : decode cX12_between 33 = .ok (.ireturn, 1) := by decide +kernel
theorem dX12_next_0 : decode cX12_next 0 = .ok (.aload_n 0, 1) := by decide +kernel
theorem dX12_next_1 : decode cX12_next 1 = .ok (.aload_n 0, 1) := by decide +kernel
theorem dX12_next_2 : decode cX12_next 2 = .ok (.getfield 209, 3) := by decide +kernel
theorem dX12_next_5 : decode cX12_next 5 = .ok (.putfield 212, 3) := by decide +kernel
theorem dX12_next_8 : decode cX12_next 8 = .ok (.aload_n 0, 1) := by decide +kernel
theorem dX12_next_9 : decode cX12_next 9 = .ok (.getfield 212, 3) := by decide +kernel
theorem dX12_next_12 : decode cX12_next 12 = .ok (.aload_n 0, 1) := by decide +kernel
theorem dX12_next_13 : decode cX12_next 13 = .ok (.getfield 198, 3) := by decide +kernel
theorem dX12_next_16 : decode cX12_next 16 = .ok (.if_icmp .ge 44, 3) := by decide +kernel
theorem dX12_next_19 : decode cX12_next 19 = .ok (.aload_n 0, 1) := by decide +kernel
theorem dX12_next_20 : decode cX12_next 20 = .ok (.getfield 66, 3) := by decide +kernel
theorem dX12_next_23 : decode cX12_next 23 = .ok (.aload_n 0, 1) := by decide +kernel
theorem dX12_next_24 : decode cX12_next 24 = .ok (.getfield 212, 3) := by decide +kernel
theorem dX12_next_27 : decode cX12_next 27 = .ok (.baload, 1) := by decide +kernel
theorem dX12_next_28 : decode cX12_next 28 = .ok (.bipush 32, 2) := by decide +kernel
theorem dX12_next_30 : decode cX12_next 30 = .ok (.if_icmp .eq 17, 3) := by decide +kernel
theorem dX12_next_33 : decode cX12_next 33 = .ok (.aload_n 0, 1) := by decide +kernel
theorem dX12_next_34 : decode cX12_next 34 = .ok (.getfield 66, 3) := by decide +kernel
theorem dX12_next_37 : decode cX12_next 37 = .ok (.aload_n 0, 1) := by decide +kernel
theorem dX12_next_38 : decode cX12_next 38 = .ok (.getfield 212, 3) := by decide +kernel
theorem dX12_next_41 : decode cX12_next 41 = .ok (.baload, 1) := by decide +kernel
theorem dX12_next_42 : decode cX12_next 42 = .ok (.bipush 10, 2) := by decide +kernel
theorem dX12_next_44 : decode cX12_next 44 = .ok (.if_icmp .ne 16, 3) := by decide +kernel
theorem dX12_next_47 : decode cX12_next 47 = .ok (.aload_n 0, 1) := by decide +kernel
theorem dX12_next_48 : decode cX12_next 48 = .ok (.dup, 1) := by decide +kernel
theorem dX12_next_49 : decode cX12_next 49 = .ok (.getfield 212, 3) := by decide +kernel
theorem dX12_next_52 : decode cX12_next 52 = .ok (.iconst 1, 1) := by decide +kernel
theorem dX12_next_53 : decode cX12_next 53 = .ok (.iadd, 1) := by decide +kernel
theorem dX12_next_54 : decode cX12_next 54 = .ok (.putfield 212, 3) := by decide +kernel
theorem dX12_next_57 : decode cX12_next 57 = .ok (.goto (-49), 3) := by decide +kernel
theorem dX12_next_60 : decode cX12_next 60 = .ok (.aload_n 0, 1) := by decide +kernel
theorem dX12_next_61 : decode cX12_next 61 = .ok (.aload_n 0, 1) := by decide +kernel
theorem dX12_next_62 : decode cX12_next 62 = .ok (.getfield 212, 3) := by decide +kernel
theorem dX12_next_65 : decode cX12_next 65 = .ok (.putfield 209, 3) := by decide +kernel
theorem dX12_next_68 : decode cX12_next 68 = .ok (.aload_n 0, 1) := by decide +kernel
theorem dX12_next_69 : decode cX12_next 69 = .ok (.aload_n 0, 1) := by decide +kernel
theorem dX12_next_70 : decode cX12_next 70 = .ok (.getfield 212, 3) := by decide +kernel
theorem dX12_next_73 : decode cX12_next 73 = .ok (.bipush 97, 2) := by decide +kernel
theorem dX12_next_75 : decode cX12_next 75 = .ok (.bipush 122, 2) := by decide +kernel
theorem dX12_next_77 : decode cX12_next 77 = .ok (.invokevirtual 215, 3) := by decide +kernel
theorem dX12_next_80 : decode cX12_next 80 = .ok (.ifCond .eq 31, 3) := by decide +kernel
theorem dX12_next_83 : decode cX12_next 83 = .ok (.aload_n 0, 1) := by decide +kernel
theorem dX12_next_84 : decode cX12_next 84 = .ok (.aload_n 0, 1) := by decide +kernel
theorem dX12_next_85 : decode cX12_next 85 = .ok (.getfield 209, 3) := by decide +kernel
theorem dX12_next_88 : decode cX12_next 88 = .ok (.bipush 97, 2) := by decide +kernel
theorem dX12_next_90 : decode cX12_next 90 = .ok (.bipush 122, 2) := by decide +kernel
theorem dX12_next_92 : decode cX12_next 92 = .ok (.invokevirtual 215, 3) := by decide +kernel
theorem dX12_next_95 : decode cX12_next 95 = .ok (.ifCond .eq 80, 3) := by decide +kernel
theorem dX12_next_98 : decode cX12_next 98 = .ok (.aload_n 0, 1) := by decide +kernel
theorem dX12_next_99 : decode cX12_next 99 = .ok (.dup, 1) := by decide +kernel
theorem dX12_next_100 : decode cX12_next 100 = .ok (.getfield 209, 3) := by decide +kernel
theorem dX12_next_103 : decode cX12_next 103 = .ok (.iconst 1, 1) := by decide +kernel
theorem dX12_next_104 : decode cX12_next 104 = .ok (.iadd, 1) := by decide +kernel
theorem dX12_next_105 : decode cX12_next 105 = .ok (.putfield 209, 3) := by decide +kernel
theorem dX12_next_108 : decode cX12_next 108 = .ok (.goto (-25), 3) := by decide +kernel
theorem dX12_next_111 : decode cX12_next 111 = .ok (.aload_n 0, 1) := by decide +kernel
theorem dX12_next_112 : decode cX12_next 112 = .ok (.aload_n 0, 1) := by decide +kernel
theorem dX12_next_113 : decode cX12_next 113 = .ok (.getfield 212, 3) := by decide +kernel
theorem dX12_next_116 : decode cX12_next 116 = .ok (.bipush 48, 2) := by decide +kernel
theorem dX12_next_118 : decode cX12_next 118 = .ok (.bipush 57, 2) := by decide +kernel
theorem dX12_next_120 : decode cX12_next 120 = .ok (.invokevirtual 215, 3) := by decide +kernel
theorem dX12_next_123 : decode cX12_next 123 = .ok (.ifCond .eq 31, 3) := by decide +kernel
theorem dX12_next_126 : decode cX12_next 126 = .ok (.aload_n 0, 1) := by decide +kernel
theorem dX12_next_127 : decode cX12_next 127 = .ok (.aload_n 0, 1) := by decide +kernel
theorem dX12_next_128 : decode cX12_next 128 = .ok (.getfield 209, 3) := by decide +kernel
theorem dX12_next_131 : decode cX12_next 131 = .ok (.bipush 48, 2) := by decide +kernel
theorem dX12_next_133 : decode cX12_next 133 = .ok (.bipush 57, 2) := by decide +kernel
theorem dX12_next_135 : decode cX12_next 135 = .ok (.invokevirtual 215, 3) := by decide +kernel
theorem dX12_next_138 : decode cX12_next 138 = .ok (.ifCond .eq 37, 3) := by decide +kernel
theorem dX12_next_141 : decode cX12_next 141 = .ok (.aload_n 0, 1) := by decide +kernel
theorem dX12_next_142 : decode cX12_next 142 = .ok (.dup, 1) := by decide +kernel
theorem dX12_next_143 : decode cX12_next 143 = .ok (.getfield 209, 3) := by decide +kernel
theorem dX12_next_146 : decode cX12_next 146 = .ok (.iconst 1, 1) := by decide +kernel
theorem dX12_next_147 : decode cX12_next 147 = .ok (.iadd, 1) := by decide +kernel
theorem dX12_next_148 : decode cX12_next 148 = .ok (.putfield 209, 3) := by decide +kernel
theorem dX12_next_151 : decode cX12_next 151 = .ok (.goto (-25), 3) := by decide +kernel
theorem dX12_next_154 : decode cX12_next 154 = .ok (.aload_n 0, 1) := by decide +kernel
theorem dX12_next_155 : decode cX12_next 155 = .ok (.getfield 212, 3) := by decide +kernel
theorem dX12_next_158 : decode cX12_next 158 = .ok (.aload_n 0, 1) := by decide +kernel
theorem dX12_next_159 : decode cX12_next 159 = .ok (.getfield 198, 3) := by decide +kernel
theorem dX12_next_162 : decode cX12_next 162 = .ok (.if_icmp .ge 13, 3) := by decide +kernel
theorem dX12_next_165 : decode cX12_next 165 = .ok (.aload_n 0, 1) := by decide +kernel
theorem dX12_next_166 : decode cX12_next 166 = .ok (.dup, 1) := by decide +kernel
theorem dX12_next_167 : decode cX12_next 167 = .ok (.getfield 209, 3) := by decide +kernel
theorem dX12_next_170 : decode cX12_next 170 = .ok (.iconst 1, 1) := by decide +kernel
theorem dX12_next_171 : decode cX12_next 171 = .ok (.iadd, 1) := by decide +kernel
theorem dX12_next_172 : decode cX12_next 172 = .ok (.putfield 209, 3) := by decide +kernel
theorem dX12_next_175 : decode cX12_next 175 = .ok (.return_, 1) := by decide +kernel
theorem dX12_passes_0 : decode cX12_passes 0 = .ok (.iload_n 1, 1) := by decide +kernel
theorem dX12_passes_1 : decode cX12_passes 1 = .ok (.ifCond .ne 21, 3) := by decide +kernel
theorem dX12_passes_4 : decode cX12_passes 4 = .ok (.aload_n 0, 1) := by decide +kernel
theorem dX12_passes_5 : decode cX12_passes 5 = .ok (.getfield 219, 3) := by decide +kernel
theorem dX12_passes_8 : decode cX12_passes 8 = .ok (.iconst (-1), 1) := by decide +kernel
theorem dX12_passes_9 : decode cX12_passes 9 = .ok (.if_icmp .ne 11, 3) := by decide +kernel
theorem dX12_passes_12 : decode cX12_passes 12 = .ok (.aload_n 0, 1) := by decide +kernel
theorem dX12_passes_13 : decode cX12_passes 13 = .ok (.aload_n 0, 1) := by decide +kernel
theorem dX12_passes_14 : decode cX12_passes 14 = .ok (.getfield 212, 3) := by decide +kernel
theorem dX12_passes_17 : decode cX12_passes 17 = .ok (.putfield 219, 3) := by decide +kernel
theorem dX12_passes_20 : decode cX12_passes 20 = .ok (.iconst 0, 1) := by decide +kernel
theorem dX12_passes_21 : decode cX12_passes 21 = .ok (.ireturn, 1) := by decide +kernel
theorem dX12_passes_22 : decode cX12_passes 22 = .ok (.aload_n 0, 1) := by decide +kernel
theorem dX12_passes_23 : decode cX12_passes 23 = .ok (.invokevirtual 222, 3) := by decide +kernel
theorem dX12_passes_26 : decode cX12_passes 26 = .ok (.iconst 1, 1) := by decide +kernel
theorem dX12_passes_27 : decode cX12_passes 27 = .ok (.ireturn, 1) := by decide +kernel
theorem dX12_isWord_0 : decode cX12_isWord 0 = .ok (.aload_n 0, 1) := by decide +kernel
theorem dX12_isWord_1 : decode cX12_isWord 1 = .ok (.getfield 212, 3) := by decide +kernel
theorem dX12_isWord_4 : decode cX12_isWord 4 = .ok (.aload_n 0, 1) := by decide +kernel
theorem dX12_isWord_5 : decode cX12_isWord 5 = .ok (.getfield 198, 3) := by decide +kernel
theorem dX12_isWord_8 : decode cX12_isWord 8 = .ok (.if_icmp .eq 24, 3) := by decide +kernel
theorem dX12_isWord_11 : decode cX12_isWord 11 = .ok (.aload_n 0, 1) := by decide +kernel
theorem dX12_isWord_12 : decode cX12_isWord 12 = .ok (.getfield 209, 3) := by decide +kernel
theorem dX12_isWord_15 : decode cX12_isWord 15 = .ok (.aload_n 0, 1) := by decide +kernel
theorem dX12_isWord_16 : decode cX12_isWord 16 = .ok (.getfield 212, 3) := by decide +kernel
theorem dX12_isWord_19 : decode cX12_isWord 19 = .ok (.isub, 1) := by decide +kernel
theorem dX12_isWord_20 : decode cX12_isWord 20 = .ok (.aload_n 0, 1) := by decide +kernel
theorem dX12_isWord_21 : decode cX12_isWord 21 = .ok (.getfield 81, 3) := by decide +kernel
theorem dX12_isWord_24 : decode cX12_isWord 24 = .ok (.iload_n 1, 1) := by decide +kernel
theorem dX12_isWord_25 : decode cX12_isWord 25 = .ok (.aaload, 1) := by decide +kernel
theorem dX12_isWord_26 : decode cX12_isWord 26 = .ok (.invokevirtual 225, 3) := by decide +kernel
theorem dX12_isWord_29 : decode cX12_isWord 29 = .ok (.if_icmp .eq 5, 3) := by decide +kernel
theorem dX12_isWord_32 : decode cX12_isWord 32 = .ok (.iconst 0, 1) := by decide +kernel
theorem dX12_isWord_33 : decode cX12_isWord 33 = .ok (.ireturn, 1) := by decide +kernel
theorem dX12_isWord_34 : decode cX12_isWord 34 = .ok (.aload_n 0, 1) := by decide +kernel
theorem dX12_isWord_35 : decode cX12_isWord 35 = .ok (.getfield 212, 3) := by decide +kernel
theorem dX12_isWord_38 : decode cX12_isWord 38 = .ok (.istore_n 2, 1) := by decide +kernel
theorem dX12_isWord_39 : decode cX12_isWord 39 = .ok (.iload_n 2, 1) := by decide +kernel
theorem dX12_isWord_40 : decode cX12_isWord 40 = .ok (.aload_n 0, 1) := by decide +kernel
theorem dX12_isWord_41 : decode cX12_isWord 41 = .ok (.getfield 209, 3) := by decide +kernel
theorem dX12_isWord_44 : decode cX12_isWord 44 = .ok (.if_icmp .ge 35, 3) := by decide +kernel
theorem dX12_isWord_47 : decode cX12_isWord 47 = .ok (.aload_n 0, 1) := by decide +kernel
theorem dX12_isWord_48 : decode cX12_isWord 48 = .ok (.getfield 66, 3) := by decide +kernel
theorem dX12_isWord_51 : decode cX12_isWord 51 = .ok (.iload_n 2, 1) := by decide +kernel
theorem dX12_isWord_52 : decode cX12_isWord 52 = .ok (.baload, 1) := by decide +kernel
theorem dX12_isWord_53 : decode cX12_isWord 53 = .ok (.aload_n 0, 1) := by decide +kernel
theorem dX12_isWord_54 : decode cX12_isWord 54 = .ok (.getfield 81, 3) := by decide +kernel
theorem dX12_isWord_57 : decode cX12_isWord 57 = .ok (.iload_n 1, 1) := by decide +kernel
theorem dX12_isWord_58 : decode cX12_isWord 58 = .ok (.aaload, 1) := by decide +kernel
theorem dX12_isWord_59 : decode cX12_isWord 59 = .ok (.iload_n 2, 1) := by decide +kernel
theorem dX12_isWord_60 : decode cX12_isWord 60 = .ok (.aload_n 0, 1) := by decide +kernel
theorem dX12_isWord_61 : decode cX12_isWord 61 = .ok (.getfield 212, 3) := by decide +kernel
theorem dX12_isWord_64 : decode cX12_isWord 64 = .ok (.isub, 1) := by decide +kernel
theorem dX12_isWord_65 : decode cX12_isWord 65 = .ok (.invokevirtual 228, 3) := by decide +kernel
theorem dX12_isWord_68 : decode cX12_isWord 68 = .ok (.if_icmp .eq 5, 3) := by decide +kernel
theorem dX12_isWord_71 : decode cX12_isWord 71 = .ok (.iconst 0, 1) := by decide +kernel
theorem dX12_isWord_72 : decode cX12_isWord 72 = .ok (.ireturn, 1) := by decide +kernel
theorem dX12_isWord_73 : decode cX12_isWord 73 = .ok (.iinc 2 1, 3) := by decide +kernel
theorem dX12_isWord_76 : decode cX12_isWord 76 = .ok (.goto (-37), 3) := by decide +kernel
theorem dX12_isWord_79 : decode cX12_isWord 79 = .ok (.iconst 1, 1) := by decide +kernel
theorem dX12_isWord_80 : decode cX12_isWord 80 = .ok (.ireturn, 1) := by decide +kernel
theorem dX12_isSign_0 : decode cX12_isSign 0 = .ok (.aload_n 0, 1) := by decide +kernel
theorem dX12_isSign_1 : decode cX12_isSign 1 = .ok (.getfield 212, 3) := by decide +kernel
theorem dX12_isSign_4 : decode cX12_isSign 4 = .ok (.aload_n 0, 1) := by decide +kernel
theorem dX12_isSign_5 : decode cX12_isSign 5 = .ok (.getfield 198, 3) := by decide +kernel
theorem dX12_isSign_8 : decode cX12_isSign 8 = .ok (.if_icmp .ge 20, 3) := by decide +kernel
theorem dX12_isSign_11 : decode cX12_isSign 11 = .ok (.aload_n 0, 1) := by decide +kernel
theorem dX12_isSign_12 : decode cX12_isSign 12 = .ok (.getfield 66, 3) := by decide +kernel
theorem dX12_isSign_15 : decode cX12_isSign 15 = .ok (.aload_n 0, 1) := by decide +kernel
theorem dX12_isSign_16 : decode cX12_isSign 16 = .ok (.getfield 212, 3) := by decide +kernel
theorem dX12_isSign_19 : decode cX12_isSign 19 = .ok (.baload, 1) := by decide +kernel
theorem dX12_isSign_20 : decode cX12_isSign 20 = .ok (.iload_n 1, 1) := by decide +kernel
theorem dX12_isSign_21 : decode cX12_isSign 21 = .ok (.if_icmp .ne 7, 3) := by decide +kernel
theorem dX12_isSign_24 : decode cX12_isSign 24 = .ok (.iconst 1, 1) := by decide +kernel
theorem dX12_isSign_25 : decode cX12_isSign 25 = .ok (.goto 4, 3) := by decide +kernel
theorem dX12_isSign_28 : decode cX12_isSign 28 = .ok (.iconst 0, 1) := by decide +kernel
theorem dX12_isSign_29 : decode cX12_isSign 29 = .ok (.ireturn, 1) := by decide +kernel
theorem dX12_number_0 : decode cX12_number 0 = .ok (.aload_n 0, 1) := by decide +kernel
theorem dX12_number_1 : decode cX12_number 1 = .ok (.aload_n 0, 1) := by decide +kernel
theorem dX12_number_2 : decode cX12_number 2 = .ok (.aload_n 0, 1) := by decide +kernel
theorem dX12_number_3 : decode cX12_number 3 = .ok (.getfield 212, 3) := by decide +kernel
theorem dX12_number_6 : decode cX12_number 6 = .ok (.bipush 48, 2) := by decide +kernel
theorem dX12_number_8 : decode cX12_number 8 = .ok (.bipush 57, 2) := by decide +kernel
theorem dX12_number_10 : decode cX12_number 10 = .ok (.invokevirtual 215, 3) := by decide +kernel
theorem dX12_number_13 : decode cX12_number 13 = .ok (.ifCond .eq 7, 3) := by decide +kernel
theorem dX12_number_16 : decode cX12_number 16 = .ok (.iconst 0, 1) := by decide +kernel
theorem dX12_number_17 : decode cX12_number 17 = .ok (.goto 4, 3) := by decide +kernel
theorem dX12_number_20 : decode cX12_number 20 = .ok (.iconst (-1), 1) := by decide +kernel
theorem dX12_number_21 : decode cX12_number 21 = .ok (.putfield 232, 3) := by decide +kernel
theorem dX12_number_24 : decode cX12_number 24 = .ok (.aload_n 0, 1) := by decide +kernel
theorem dX12_number_25 : decode cX12_number 25 = .ok (.getfield 212, 3) := by decide +kernel
theorem dX12_number_28 : decode cX12_number 28 = .ok (.istore_n 3, 1) := by decide +kernel
theorem dX12_number_29 : decode cX12_number 29 = .ok (.aload_n 0, 1) := by decide +kernel
theorem dX12_number_30 : decode cX12_number 30 = .ok (.getfield 232, 3) := by decide +kernel
theorem dX12_number_33 : decode cX12_number 33 = .ok (.iconst (-1), 1) := by decide +kernel
theorem dX12_number_34 : decode cX12_number 34 = .ok (.if_icmp .eq 55, 3) := by decide +kernel
theorem dX12_number_37 : decode cX12_number 37 = .ok (.iload_n 3, 1) := by decide +kernel
theorem dX12_number_38 : decode cX12_number 38 = .ok (.aload_n 0, 1) := by decide +kernel
theorem dX12_number_39 : decode cX12_number 39 = .ok (.getfield 209, 3) := by decide +kernel
theorem dX12_number_42 : decode cX12_number 42 = .ok (.if_icmp .ge 47, 3) := by decide +kernel
theorem dX12_number_45 : decode cX12_number 45 = .ok (.aload_n 0, 1) := by decide +kernel
theorem dX12_number_46 : decode cX12_number 46 = .ok (.aload_n 0, 1) := by decide +kernel
theorem dX12_number_47 : decode cX12_number 47 = .ok (.getfield 232, 3) := by decide +kernel
theorem dX12_number_50 : decode cX12_number 50 = .ok (.sipush 9999, 3) := by decide +kernel
theorem dX12_number_53 : decode cX12_number 53 = .ok (.if_icmp .le 10, 3) := by decide +kernel
theorem dX12_number_56 : decode cX12_number 56 = .ok (.aload_n 0, 1) := by decide +kernel
theorem dX12_number_57 : decode cX12_number 57 = .ok (.getfield 232, 3) := by decide +kernel
theorem dX12_number_60 : decode cX12_number 60 = .ok (.goto 20, 3) := by decide +kernel
theorem dX12_number_63 : decode cX12_number 63 = .ok (.bipush 10, 2) := by decide +kernel
theorem dX12_number_65 : decode cX12_number 65 = .ok (.aload_n 0, 1) := by decide +kernel
theorem dX12_number_66 : decode cX12_number 66 = .ok (.getfield 232, 3) := by decide +kernel
theorem dX12_number_69 : decode cX12_number 69 = .ok (.imul, 1) := by decide +kernel
theorem dX12_number_70 : decode cX12_number 70 = .ok (.aload_n 0, 1) := by decide +kernel
theorem dX12_number_71 : decode cX12_number 71 = .ok (.getfield 66, 3) := by decide +kernel
theorem dX12_number_74 : decode cX12_number 74 = .ok (.iload_n 3, 1) := by decide +kernel
theorem dX12_number_75 : decode cX12_number 75 = .ok (.baload, 1) := by decide +kernel
theorem dX12_number_76 : decode cX12_number 76 = .ok (.iadd, 1) := by decide +kernel
theorem dX12_number_77 : decode cX12_number 77 = .ok (.bipush 48, 2) := by decide +kernel
theorem dX12_number_79 : decode cX12_number 79 = .ok (.isub, 1) := by decide +kernel
theorem dX12_number_80 : decode cX12_number 80 = .ok (.putfield 232, 3) := by decide +kernel
theorem dX12_number_83 : decode cX12_number 83 = .ok (.iinc 3 1, 3) := by decide +kernel
theorem dX12_number_86 : decode cX12_number 86 = .ok (.goto (-57), 3) := by decide +kernel
theorem dX12_number_89 : decode cX12_number 89 = .ok (.aload_n 0, 1) := by decide +kernel
theorem dX12_number_90 : decode cX12_number 90 = .ok (.aload_n 0, 1) := by decide +kernel
theorem dX12_number_91 : decode cX12_number 91 = .ok (.getfield 232, 3) := by decide +kernel
theorem dX12_number_94 : decode cX12_number 94 = .ok (.i2l, 1) := by decide +kernel
theorem dX12_number_95 : decode cX12_number 95 = .ok (.iload_n 1, 1) := by decide +kernel
theorem dX12_number_96 : decode cX12_number 96 = .ok (.i2l, 1) := by decide +kernel
theorem dX12_number_97 : decode cX12_number 97 = .ok (.iload_n 2, 1) := by decide +kernel
theorem dX12_number_98 : decode cX12_number 98 = .ok (.i2l, 1) := by decide +kernel
theorem dX12_number_99 : decode cX12_number 99 = .ok (.invokestatic 205, 3) := by decide +kernel
theorem dX12_number_102 : decode cX12_number 102 = .ok (.invokevirtual 235, 3) := by decide +kernel
theorem dX12_number_105 : decode cX12_number 105 = .ok (.ireturn, 1) := by decide +kernel
theorem dX12_lesser_0 : decode cX12_lesser 0 = .ok (.aload_n 0, 1) := by decide +kernel
theorem dX12_lesser_1 : decode cX12_lesser 1 = .ok (.getfield 14, 3) := by decide +kernel
theorem dX12_lesser_4 : decode cX12_lesser 4 = .ok (.iload_n 1, 1) := by decide +kernel
theorem dX12_lesser_5 : decode cX12_lesser 5 = .ok (.aaload, 1) := by decide +kernel
theorem dX12_lesser_6 : decode cX12_lesser 6 = .ok (.iload_n 2, 1) := by decide +kernel
theorem dX12_lesser_7 : decode cX12_lesser 7 = .ok (.iaload, 1) := by decide +kernel
theorem dX12_lesser_8 : decode cX12_lesser 8 = .ok (.aload_n 0, 1) := by decide +kernel
theorem dX12_lesser_9 : decode cX12_lesser 9 = .ok (.getfield 17, 3) := by decide +kernel
theorem dX12_lesser_12 : decode cX12_lesser 12 = .ok (.iload_n 1, 1) := by decide +kernel
theorem dX12_lesser_13 : decode cX12_lesser 13 = .ok (.aaload, 1) := by decide +kernel
theorem dX12_lesser_14 : decode cX12_lesser 14 = .ok (.iload_n 2, 1) := by decide +kernel
theorem dX12_lesser_15 : decode cX12_lesser 15 = .ok (.iaload, 1) := by decide +kernel
theorem dX12_lesser_16 : decode cX12_lesser 16 = .ok (.invokestatic 239, 3) := by decide +kernel
theorem dX12_lesser_19 : decode cX12_lesser 19 = .ok (.ireturn, 1) := by decide +kernel
theorem dX12_wallRead_0 : decode cX12_wallRead 0 = .ok (.bipush 6, 2) := by decide +kernel
theorem dX12_wallRead_2 : decode cX12_wallRead 2 = .ok (.istore_n 1, 1) := by decide +kernel
theorem dX12_wallRead_3 : decode cX12_wallRead 3 = .ok (.aload_n 0, 1) := by decide +kernel
theorem dX12_wallRead_4 : decode cX12_wallRead 4 = .ok (.getfield 50, 3) := by decide +kernel
theorem dX12_wallRead_7 : decode cX12_wallRead 7 = .ok (.iload_n 1, 1) := by decide +kernel
theorem dX12_wallRead_8 : decode cX12_wallRead 8 = .ok (.iaload, 1) := by decide +kernel
theorem dX12_wallRead_9 : decode cX12_wallRead 9 = .ok (.istore_n 2, 1) := by decide +kernel
theorem dX12_wallRead_10 : decode cX12_wallRead 10 = .ok (.aload_n 0, 1) := by decide +kernel
theorem dX12_wallRead_11 : decode cX12_wallRead 11 = .ok (.iload_n 2, 1) := by decide +kernel
theorem dX12_wallRead_12 : decode cX12_wallRead 12 = .ok (.bipush 8, 2) := by decide +kernel
theorem dX12_wallRead_14 : decode cX12_wallRead 14 = .ok (.if_icmp .ge 7, 3) := by decide +kernel
theorem dX12_wallRead_17 : decode cX12_wallRead 17 = .ok (.iconst 1, 1) := by decide +kernel
theorem dX12_wallRead_18 : decode cX12_wallRead 18 = .ok (.goto 4, 3) := by decide +kernel
theorem dX12_wallRead_21 : decode cX12_wallRead 21 = .ok (.iconst 0, 1) := by decide +kernel
theorem dX12_wallRead_22 : decode cX12_wallRead 22 = .ok (.invokevirtual 235, 3) := by decide +kernel
theorem dX12_wallRead_25 : decode cX12_wallRead 25 = .ok (.ifCond .eq 15, 3) := by decide +kernel
theorem dX12_wallRead_28 : decode cX12_wallRead 28 = .ok (.aload_n 0, 1) := by decide +kernel
theorem dX12_wallRead_29 : decode cX12_wallRead 29 = .ok (.bipush 50, 2) := by decide +kernel
theorem dX12_wallRead_31 : decode cX12_wallRead 31 = .ok (.sipush 600, 3) := by decide +kernel
theorem dX12_wallRead_34 : decode cX12_wallRead 34 = .ok (.invokevirtual 245, 3) := by decide +kernel
theorem dX12_wallRead_37 : decode cX12_wallRead 37 = .ok (.ifCond .ne 5, 3) := by decide +kernel
theorem dX12_wallRead_40 : decode cX12_wallRead 40 = .ok (.iconst 0, 1) := by decide +kernel
theorem dX12_wallRead_41 : decode cX12_wallRead 41 = .ok (.ireturn, 1) := by decide +kernel
theorem dX12_wallRead_42 : decode cX12_wallRead 42 = .ok (.aload_n 0, 1) := by decide +kernel
theorem dX12_wallRead_43 : decode cX12_wallRead 43 = .ok (.getfield 11, 3) := by decide +kernel
theorem dX12_wallRead_46 : decode cX12_wallRead 46 = .ok (.iload_n 1, 1) := by decide +kernel
theorem dX12_wallRead_47 : decode cX12_wallRead 47 = .ok (.aaload, 1) := by decide +kernel
theorem dX12_wallRead_48 : decode cX12_wallRead 48 = .ok (.iload_n 2, 1) := by decide +kernel
theorem dX12_wallRead_49 : decode cX12_wallRead 49 = .ok (.aload_n 0, 1) := by decide +kernel
theorem dX12_wallRead_50 : decode cX12_wallRead 50 = .ok (.getfield 232, 3) := by decide +kernel
theorem dX12_wallRead_53 : decode cX12_wallRead 53 = .ok (.iastore, 1) := by decide +kernel
theorem dX12_wallRead_54 : decode cX12_wallRead 54 = .ok (.aload_n 0, 1) := by decide +kernel
theorem dX12_wallRead_55 : decode cX12_wallRead 55 = .ok (.bipush 100, 2) := by decide +kernel
theorem dX12_wallRead_57 : decode cX12_wallRead 57 = .ok (.sipush 400, 3) := by decide +kernel
theorem dX12_wallRead_60 : decode cX12_wallRead 60 = .ok (.invokevirtual 245, 3) := by decide +kernel
theorem dX12_wallRead_63 : decode cX12_wallRead 63 = .ok (.ifCond .ne 5, 3) := by decide +kernel
theorem dX12_wallRead_66 : decode cX12_wallRead 66 = .ok (.iconst 0, 1) := by decide +kernel
theorem dX12_wallRead_67 : decode cX12_wallRead 67 = .ok (.ireturn, 1) := by decide +kernel
theorem dX12_wallRead_68 : decode cX12_wallRead 68 = .ok (.aload_n 0, 1) := by decide +kernel
theorem dX12_wallRead_69 : decode cX12_wallRead 69 = .ok (.getfield 14, 3) := by decide +kernel
theorem dX12_wallRead_72 : decode cX12_wallRead 72 = .ok (.iload_n 1, 1) := by decide +kernel
theorem dX12_wallRead_73 : decode cX12_wallRead 73 = .ok (.aaload, 1) := by decide +kernel
theorem dX12_wallRead_74 : decode cX12_wallRead 74 = .ok (.iload_n 2, 1) := by decide +kernel
theorem dX12_wallRead_75 : decode cX12_wallRead 75 = .ok (.aload_n 0, 1) := by decide +kernel
theorem dX12_wallRead_76 : decode cX12_wallRead 76 = .ok (.getfield 232, 3) := by decide +kernel
theorem dX12_wallRead_79 : decode cX12_wallRead 79 = .ok (.iastore, 1) := by decide +kernel
theorem dX12_wallRead_80 : decode cX12_wallRead 80 = .ok (.aload_n 0, 1) := by decide +kernel
theorem dX12_wallRead_81 : decode cX12_wallRead 81 = .ok (.bipush 100, 2) := by decide +kernel
theorem dX12_wallRead_83 : decode cX12_wallRead 83 = .ok (.sipush 400, 3) := by decide +kernel
theorem dX12_wallRead_86 : decode cX12_wallRead 86 = .ok (.invokevirtual 245, 3) := by decide +kernel
theorem dX12_wallRead_89 : decode cX12_wallRead 89 = .ok (.ifCond .ne 5, 3) := by decide +kernel
theorem dX12_wallRead_92 : decode cX12_wallRead 92 = .ok (.iconst 0, 1) := by decide +kernel
theorem dX12_wallRead_93 : decode cX12_wallRead 93 = .ok (.ireturn, 1) := by decide +kernel
theorem dX12_wallRead_94 : decode cX12_wallRead 94 = .ok (.aload_n 0, 1) := by decide +kernel
theorem dX12_wallRead_95 : decode cX12_wallRead 95 = .ok (.getfield 17, 3) := by decide +kernel
theorem dX12_wallRead_98 : decode cX12_wallRead 98 = .ok (.iload_n 1, 1) := by decide +kernel
theorem dX12_wallRead_99 : decode cX12_wallRead 99 = .ok (.aaload, 1) := by decide +kernel
theorem dX12_wallRead_100 : decode cX12_wallRead 100 = .ok (.iload_n 2, 1) := by decide +kernel
theorem dX12_wallRead_101 : decode cX12_wallRead 101 = .ok (.aload_n 0, 1) := by decide +kernel
theorem dX12_wallRead_102 : decode cX12_wallRead 102 = .ok (.getfield 232, 3) := by decide +kernel
theorem dX12_wallRead_105 : decode cX12_wallRead 105 = .ok (.iastore, 1) := by decide +kernel
theorem dX12_wallRead_106 : decode cX12_wallRead 106 = .ok (.aload_n 0, 1) := by decide +kernel
theorem dX12_wallRead_107 : decode cX12_wallRead 107 = .ok (.getfield 20, 3) := by decide +kernel
theorem dX12_wallRead_110 : decode cX12_wallRead 110 = .ok (.iload_n 1, 1) := by decide +kernel
theorem dX12_wallRead_111 : decode cX12_wallRead 111 = .ok (.aaload, 1) := by decide +kernel
theorem dX12_wallRead_112 : decode cX12_wallRead 112 = .ok (.iload_n 2, 1) := by decide +kernel
theorem dX12_wallRead_113 : decode cX12_wallRead 113 = .ok (.iconst 0, 1) := by decide +kernel
theorem dX12_wallRead_114 : decode cX12_wallRead 114 = .ok (.iastore, 1) := by decide +kernel
