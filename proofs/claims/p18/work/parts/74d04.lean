theorem dX11_lay_37 : decode cX11_lay 37 = .ok (.aload_n 3, 1) := by decide +kernel
theorem dX11_lay_38 : decode cX11_lay 38 = .ok (.aload_n 0, 1) := by decide +kernel
theorem dX11_lay_39 : decode cX11_lay 39 = .ok (.getfield 40, 3) := by decide +kernel
theorem dX11_lay_42 : decode cX11_lay 42 = .ok (.getfield 181, 3) := by decide +kernel
theorem dX11_lay_45 : decode cX11_lay 45 = .ok (.iload_n 1, 1) := by decide +kernel
theorem dX11_lay_46 : decode cX11_lay 46 = .ok (.iaload, 1) := by decide +kernel
theorem dX11_lay_47 : decode cX11_lay 47 = .ok (.aload_n 0, 1) := by decide +kernel
theorem dX11_lay_48 : decode cX11_lay 48 = .ok (.getfield 40, 3) := by decide +kernel
theorem dX11_lay_51 : decode cX11_lay 51 = .ok (.getfield 184, 3) := by decide +kernel
theorem dX11_lay_54 : decode cX11_lay 54 = .ok (.iload_n 1, 1) := by decide +kernel
theorem dX11_lay_55 : decode cX11_lay 55 = .ok (.iaload, 1) := by decide +kernel
theorem dX11_lay_56 : decode cX11_lay 56 = .ok (.aload_n 0, 1) := by decide +kernel
theorem dX11_lay_57 : decode cX11_lay 57 = .ok (.getfield 95, 3) := by decide +kernel
theorem dX11_lay_60 : decode cX11_lay 60 = .ok (.invokevirtual 363, 3) := by decide +kernel
theorem dX11_lay_63 : decode cX11_lay 63 = .ok (.iconst 1, 1) := by decide +kernel
theorem dX11_lay_64 : decode cX11_lay 64 = .ok (.ireturn, 1) := by decide +kernel
theorem dX11_cutWholeRoom_0 : decode cX11_cutWholeRoom 0 = .ok (.aload_n 0, 1) := by decide +kernel
theorem dX11_cutWholeRoom_1 : decode cX11_cutWholeRoom 1 = .ok (.getfield 58, 3) := by decide +kernel
theorem dX11_cutWholeRoom_4 : decode cX11_cutWholeRoom 4 = .ok (.aload_n 0, 1) := by decide +kernel
theorem dX11_cutWholeRoom_5 : decode cX11_cutWholeRoom 5 = .ok (.getfield 51, 3) := by decide +kernel
theorem dX11_cutWholeRoom_8 : decode cX11_cutWholeRoom 8 = .ok (.getfield 199, 3) := by decide +kernel
theorem dX11_cutWholeRoom_11 : decode cX11_cutWholeRoom 11 = .ok (.invokevirtual 318, 3) := by decide +kernel
theorem dX11_cutWholeRoom_14 : decode cX11_cutWholeRoom 14 = .ok (.aload_n 0, 1) := by decide +kernel
theorem dX11_cutWholeRoom_15 : decode cX11_cutWholeRoom 15 = .ok (.getfield 51, 3) := by decide +kernel
theorem dX11_cutWholeRoom_18 : decode cX11_cutWholeRoom 18 = .ok (.aload_n 0, 1) := by decide +kernel
theorem dX11_cutWholeRoom_19 : decode cX11_cutWholeRoom 19 = .ok (.getfield 58, 3) := by decide +kernel
theorem dX11_cutWholeRoom_22 : decode cX11_cutWholeRoom 22 = .ok (.iconst (-1), 1) := by decide +kernel
theorem dX11_cutWholeRoom_23 : decode cX11_cutWholeRoom 23 = .ok (.invokevirtual 322, 3) := by decide +kernel
theorem dX11_cutWholeRoom_26 : decode cX11_cutWholeRoom 26 = .ok (.ireturn, 1) := by decide +kernel
theorem dX11_rollsOfWall_0 : decode cX11_rollsOfWall 0 = .ok (.aload_n 0, 1) := by decide +kernel
theorem dX11_rollsOfWall_1 : decode cX11_rollsOfWall 1 = .ok (.getfield 58, 3) := by decide +kernel
theorem dX11_rollsOfWall_4 : decode cX11_rollsOfWall 4 = .ok (.aload_n 0, 1) := by decide +kernel
theorem dX11_rollsOfWall_5 : decode cX11_rollsOfWall 5 = .ok (.getfield 51, 3) := by decide +kernel
theorem dX11_rollsOfWall_8 : decode cX11_rollsOfWall 8 = .ok (.getfield 199, 3) := by decide +kernel
theorem dX11_rollsOfWall_11 : decode cX11_rollsOfWall 11 = .ok (.invokevirtual 318, 3) := by decide +kernel
theorem dX11_rollsOfWall_14 : decode cX11_rollsOfWall 14 = .ok (.aload_n 0, 1) := by decide +kernel
theorem dX11_rollsOfWall_15 : decode cX11_rollsOfWall 15 = .ok (.getfield 51, 3) := by decide +kernel
theorem dX11_rollsOfWall_18 : decode cX11_rollsOfWall 18 = .ok (.aload_n 0, 1) := by decide +kernel
theorem dX11_rollsOfWall_19 : decode cX11_rollsOfWall 19 = .ok (.getfield 58, 3) := by decide +kernel
theorem dX11_rollsOfWall_22 : decode cX11_rollsOfWall 22 = .ok (.iload_n 1, 1) := by decide +kernel
theorem dX11_rollsOfWall_23 : decode cX11_rollsOfWall 23 = .ok (.invokevirtual 322, 3) := by decide +kernel
theorem dX11_rollsOfWall_26 : decode cX11_rollsOfWall 26 = .ok (.ifCond .eq 13, 3) := by decide +kernel
theorem dX11_rollsOfWall_29 : decode cX11_rollsOfWall 29 = .ok (.aload_n 0, 1) := by decide +kernel
theorem dX11_rollsOfWall_30 : decode cX11_rollsOfWall 30 = .ok (.getfield 58, 3) := by decide +kernel
theorem dX11_rollsOfWall_33 : decode cX11_rollsOfWall 33 = .ok (.getfield 248, 3) := by decide +kernel
theorem dX11_rollsOfWall_36 : decode cX11_rollsOfWall 36 = .ok (.goto 4, 3) := by decide +kernel
theorem dX11_rollsOfWall_39 : decode cX11_rollsOfWall 39 = .ok (.iconst (-1), 1) := by decide +kernel
theorem dX11_rollsOfWall_40 : decode cX11_rollsOfWall 40 = .ok (.ireturn, 1) := by decide +kernel
theorem dX11_shareRoom_0 : decode cX11_shareRoom 0 = .ok (.aload_n 0, 1) := by decide +kernel
theorem dX11_shareRoom_1 : decode cX11_shareRoom 1 = .ok (.getfield 72, 3) := by decide +kernel
theorem dX11_shareRoom_4 : decode cX11_shareRoom 4 = .ok (.aload_n 0, 1) := by decide +kernel
theorem dX11_shareRoom_5 : decode cX11_shareRoom 5 = .ok (.getfield 51, 3) := by decide +kernel
theorem dX11_shareRoom_8 : decode cX11_shareRoom 8 = .ok (.getfield 257, 3) := by decide +kernel
theorem dX11_shareRoom_11 : decode cX11_shareRoom 11 = .ok (.aload_n 0, 1) := by decide +kernel
theorem dX11_shareRoom_12 : decode cX11_shareRoom 12 = .ok (.getfield 40, 3) := by decide +kernel
theorem dX11_shareRoom_15 : decode cX11_shareRoom 15 = .ok (.getfield 141, 3) := by decide +kernel
theorem dX11_shareRoom_18 : decode cX11_shareRoom 18 = .ok (.iload_n 1, 1) := by decide +kernel
theorem dX11_shareRoom_19 : decode cX11_shareRoom 19 = .ok (.iaload, 1) := by decide +kernel
theorem dX11_shareRoom_20 : decode cX11_shareRoom 20 = .ok (.invokevirtual 366, 3) := by decide +kernel
theorem dX11_shareRoom_23 : decode cX11_shareRoom 23 = .ok (.iconst 0, 1) := by decide +kernel
theorem dX11_shareRoom_24 : decode cX11_shareRoom 24 = .ok (.istore_n 2, 1) := by decide +kernel
theorem dX11_shareRoom_25 : decode cX11_shareRoom 25 = .ok (.iload_n 2, 1) := by decide +kernel
theorem dX11_shareRoom_26 : decode cX11_shareRoom 26 = .ok (.aload_n 0, 1) := by decide +kernel
theorem dX11_shareRoom_27 : decode cX11_shareRoom 27 = .ok (.getfield 51, 3) := by decide +kernel
theorem dX11_shareRoom_30 : decode cX11_shareRoom 30 = .ok (.getfield 257, 3) := by decide +kernel
theorem dX11_shareRoom_33 : decode cX11_shareRoom 33 = .ok (.getfield 123, 3) := by decide +kernel
theorem dX11_shareRoom_36 : decode cX11_shareRoom 36 = .ok (.getfield 127, 3) := by decide +kernel
theorem dX11_shareRoom_39 : decode cX11_shareRoom 39 = .ok (.if_icmp .ge 32, 3) := by decide +kernel
theorem dX11_shareRoom_42 : decode cX11_shareRoom 42 = .ok (.aload_n 0, 1) := by decide +kernel
theorem dX11_shareRoom_43 : decode cX11_shareRoom 43 = .ok (.iload_n 2, 1) := by decide +kernel
theorem dX11_shareRoom_44 : decode cX11_shareRoom 44 = .ok (.invokevirtual 315, 3) := by decide +kernel
theorem dX11_shareRoom_47 : decode cX11_shareRoom 47 = .ok (.istore_n 3, 1) := by decide +kernel
theorem dX11_shareRoom_48 : decode cX11_shareRoom 48 = .ok (.iload_n 3, 1) := by decide +kernel
theorem dX11_shareRoom_49 : decode cX11_shareRoom 49 = .ok (.iconst (-1), 1) := by decide +kernel
theorem dX11_shareRoom_50 : decode cX11_shareRoom 50 = .ok (.if_icmp .ne 5, 3) := by decide +kernel
theorem dX11_shareRoom_53 : decode cX11_shareRoom 53 = .ok (.iconst 0, 1) := by decide +kernel
theorem dX11_shareRoom_54 : decode cX11_shareRoom 54 = .ok (.ireturn, 1) := by decide +kernel
theorem dX11_shareRoom_55 : decode cX11_shareRoom 55 = .ok (.aload_n 0, 1) := by decide +kernel
theorem dX11_shareRoom_56 : decode cX11_shareRoom 56 = .ok (.getfield 72, 3) := by decide +kernel
theorem dX11_shareRoom_59 : decode cX11_shareRoom 59 = .ok (.getfield 369, 3) := by decide +kernel
theorem dX11_shareRoom_62 : decode cX11_shareRoom 62 = .ok (.iload_n 2, 1) := by decide +kernel
theorem dX11_shareRoom_63 : decode cX11_shareRoom 63 = .ok (.iload_n 3, 1) := by decide +kernel
theorem dX11_shareRoom_64 : decode cX11_shareRoom 64 = .ok (.iastore, 1) := by decide +kernel
theorem dX11_shareRoom_65 : decode cX11_shareRoom 65 = .ok (.iinc 2 1, 3) := by decide +kernel
theorem dX11_shareRoom_68 : decode cX11_shareRoom 68 = .ok (.goto (-43), 3) := by decide +kernel
theorem dX11_shareRoom_71 : decode cX11_shareRoom 71 = .ok (.aload_n 0, 1) := by decide +kernel
theorem dX11_shareRoom_72 : decode cX11_shareRoom 72 = .ok (.getfield 72, 3) := by decide +kernel
theorem dX11_shareRoom_75 : decode cX11_shareRoom 75 = .ok (.invokevirtual 372, 3) := by decide +kernel
theorem dX11_shareRoom_78 : decode cX11_shareRoom 78 = .ok (.ireturn, 1) := by decide +kernel
