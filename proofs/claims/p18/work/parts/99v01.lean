theorem dX11_all_12 : decode cX11_all 12 = .ok (.aload_n 0, 1) := by decide +kernel
theorem dX11_all_13 : decode cX11_all 13 = .ok (.getfield 58, 3) := by decide +kernel
theorem dX11_all_16 : decode cX11_all 16 = .ok (.aload_n 2, 1) := by decide +kernel
theorem dX11_all_17 : decode cX11_all 17 = .ok (.invokevirtual 318, 3) := by decide +kernel
theorem dX11_all_20 : decode cX11_all 20 = .ok (.iconst 0, 1) := by decide +kernel
theorem dX11_all_21 : decode cX11_all 21 = .ok (.istore_n 3, 1) := by decide +kernel
theorem dX11_all_22 : decode cX11_all 22 = .ok (.iload_n 3, 1) := by decide +kernel
theorem dX11_all_23 : decode cX11_all 23 = .ok (.aload_n 0, 1) := by decide +kernel
theorem dX11_all_24 : decode cX11_all 24 = .ok (.getfield 88, 3) := by decide +kernel
theorem dX11_all_27 : decode cX11_all 27 = .ok (.if_icmp .ge 47, 3) := by decide +kernel
theorem dX11_all_30 : decode cX11_all 30 = .ok (.aload_n 0, 1) := by decide +kernel
theorem dX11_all_31 : decode cX11_all 31 = .ok (.getfield 40, 3) := by decide +kernel
theorem dX11_all_34 : decode cX11_all 34 = .ok (.getfield 141, 3) := by decide +kernel
theorem dX11_all_37 : decode cX11_all 37 = .ok (.iload_n 3, 1) := by decide +kernel
theorem dX11_all_38 : decode cX11_all 38 = .ok (.iaload, 1) := by decide +kernel
theorem dX11_all_39 : decode cX11_all 39 = .ok (.iload_n 1, 1) := by decide +kernel
theorem dX11_all_40 : decode cX11_all 40 = .ok (.if_icmp .ne 28, 3) := by decide +kernel
theorem dX11_all_43 : decode cX11_all 43 = .ok (.aload_n 0, 1) := by decide +kernel
theorem dX11_all_44 : decode cX11_all 44 = .ok (.iload_n 3, 1) := by decide +kernel
theorem dX11_all_45 : decode cX11_all 45 = .ok (.invokevirtual 120, 3) := by decide +kernel
theorem dX11_all_48 : decode cX11_all 48 = .ok (.ifCond .eq 20, 3) := by decide +kernel
theorem dX11_all_51 : decode cX11_all 51 = .ok (.aload_n 0, 1) := by decide +kernel
theorem dX11_all_52 : decode cX11_all 52 = .ok (.getfield 51, 3) := by decide +kernel
theorem dX11_all_55 : decode cX11_all 55 = .ok (.aload_n 0, 1) := by decide +kernel
theorem dX11_all_56 : decode cX11_all 56 = .ok (.getfield 58, 3) := by decide +kernel
theorem dX11_all_59 : decode cX11_all 59 = .ok (.iconst (-1), 1) := by decide +kernel
theorem dX11_all_60 : decode cX11_all 60 = .ok (.invokevirtual 322, 3) := by decide +kernel
theorem dX11_all_63 : decode cX11_all 63 = .ok (.ifCond .ne 5, 3) := by decide +kernel
theorem dX11_all_66 : decode cX11_all 66 = .ok (.iconst (-1), 1) := by decide +kernel
theorem dX11_all_67 : decode cX11_all 67 = .ok (.ireturn, 1) := by decide +kernel
theorem dX11_all_68 : decode cX11_all 68 = .ok (.iinc 3 1, 3) := by decide +kernel
theorem dX11_all_71 : decode cX11_all 71 = .ok (.goto (-49), 3) := by decide +kernel
theorem dX11_all_74 : decode cX11_all 74 = .ok (.aload_n 0, 1) := by decide +kernel
theorem dX11_all_75 : decode cX11_all 75 = .ok (.getfield 58, 3) := by decide +kernel
theorem dX11_all_78 : decode cX11_all 78 = .ok (.getfield 248, 3) := by decide +kernel
theorem dX11_all_81 : decode cX11_all 81 = .ok (.ireturn, 1) := by decide +kernel
