theorem dX12_all_0 : decode cX12_all 0 = .ok (.aload_n 0, 1) := by decide +kernel
theorem dX12_all_1 : decode cX12_all 1 = .ok (.iload_n 1, 1) := by decide +kernel
theorem dX12_all_2 : decode cX12_all 2 = .ok (.invokevirtual 312, 3) := by decide +kernel
theorem dX12_all_5 : decode cX12_all 5 = .ok (.ifCond .ne 5, 3) := by decide +kernel
theorem dX12_all_8 : decode cX12_all 8 = .ok (.iconst (-1), 1) := by decide +kernel
theorem dX12_all_9 : decode cX12_all 9 = .ok (.ireturn, 1) := by decide +kernel
theorem dX12_all_10 : decode cX12_all 10 = .ok (.aload_n 0, 1) := by decide +kernel
theorem dX12_all_11 : decode cX12_all 11 = .ok (.iconst 0, 1) := by decide +kernel
theorem dX12_all_12 : decode cX12_all 12 = .ok (.putfield 375, 3) := by decide +kernel
theorem dX12_all_15 : decode cX12_all 15 = .ok (.iconst 0, 1) := by decide +kernel
theorem dX12_all_16 : decode cX12_all 16 = .ok (.istore_n 2, 1) := by decide +kernel
theorem dX12_all_17 : decode cX12_all 17 = .ok (.iload_n 2, 1) := by decide +kernel
theorem dX12_all_18 : decode cX12_all 18 = .ok (.aload_n 0, 1) := by decide +kernel
theorem dX12_all_19 : decode cX12_all 19 = .ok (.getfield 278, 3) := by decide +kernel
theorem dX12_all_22 : decode cX12_all 22 = .ok (.if_icmp .ge 54, 3) := by decide +kernel
theorem dX12_all_25 : decode cX12_all 25 = .ok (.aload_n 0, 1) := by decide +kernel
theorem dX12_all_26 : decode cX12_all 26 = .ok (.getfield 107, 3) := by decide +kernel
theorem dX12_all_29 : decode cX12_all 29 = .ok (.iload_n 2, 1) := by decide +kernel
theorem dX12_all_30 : decode cX12_all 30 = .ok (.iaload, 1) := by decide +kernel
theorem dX12_all_31 : decode cX12_all 31 = .ok (.iload_n 1, 1) := by decide +kernel
theorem dX12_all_32 : decode cX12_all 32 = .ok (.if_icmp .eq 6, 3) := by decide +kernel
theorem dX12_all_35 : decode cX12_all 35 = .ok (.goto 35, 3) := by decide +kernel
theorem dX12_all_38 : decode cX12_all 38 = .ok (.aload_n 0, 1) := by decide +kernel
theorem dX12_all_39 : decode cX12_all 39 = .ok (.iload_n 2, 1) := by decide +kernel
theorem dX12_all_40 : decode cX12_all 40 = .ok (.invokevirtual 369, 3) := by decide +kernel
theorem dX12_all_43 : decode cX12_all 43 = .ok (.iconst 0, 1) := by decide +kernel
theorem dX12_all_44 : decode cX12_all 44 = .ok (.istore_n 3, 1) := by decide +kernel
theorem dX12_all_45 : decode cX12_all 45 = .ok (.iload_n 3, 1) := by decide +kernel
theorem dX12_all_46 : decode cX12_all 46 = .ok (.aload_n 0, 1) := by decide +kernel
theorem dX12_all_47 : decode cX12_all 47 = .ok (.getfield 333, 3) := by decide +kernel
theorem dX12_all_50 : decode cX12_all 50 = .ok (.if_icmp .ge 20, 3) := by decide +kernel
theorem dX12_all_53 : decode cX12_all 53 = .ok (.aload_n 0, 1) := by decide +kernel
theorem dX12_all_54 : decode cX12_all 54 = .ok (.iload_n 2, 1) := by decide +kernel
theorem dX12_all_55 : decode cX12_all 55 = .ok (.iload_n 3, 1) := by decide +kernel
theorem dX12_all_56 : decode cX12_all 56 = .ok (.invokevirtual 385, 3) := by decide +kernel
theorem dX12_all_59 : decode cX12_all 59 = .ok (.ifCond .ne 5, 3) := by decide +kernel
theorem dX12_all_62 : decode cX12_all 62 = .ok (.iconst (-1), 1) := by decide +kernel
theorem dX12_all_63 : decode cX12_all 63 = .ok (.ireturn, 1) := by decide +kernel
theorem dX12_all_64 : decode cX12_all 64 = .ok (.iinc 3 1, 3) := by decide +kernel
theorem dX12_all_67 : decode cX12_all 67 = .ok (.goto (-22), 3) := by decide +kernel
theorem dX12_all_70 : decode cX12_all 70 = .ok (.iinc 2 1, 3) := by decide +kernel
theorem dX12_all_73 : decode cX12_all 73 = .ok (.goto (-56), 3) := by decide +kernel
theorem dX12_all_76 : decode cX12_all 76 = .ok (.aload_n 0, 1) := by decide +kernel
theorem dX12_all_77 : decode cX12_all 77 = .ok (.getfield 375, 3) := by decide +kernel
theorem dX12_all_80 : decode cX12_all 80 = .ok (.ireturn, 1) := by decide +kernel
