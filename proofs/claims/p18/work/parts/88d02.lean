theorem dX12_cuts_129 : decode cX12_cuts 129 = .ok (.iload_n 2, 1) := by decide +kernel
theorem dX12_cuts_130 : decode cX12_cuts 130 = .ok (.aload_n 0, 1) := by decide +kernel
theorem dX12_cuts_131 : decode cX12_cuts 131 = .ok (.getfield 318, 3) := by decide +kernel
theorem dX12_cuts_134 : decode cX12_cuts 134 = .ok (.aload_n 0, 1) := by decide +kernel
theorem dX12_cuts_135 : decode cX12_cuts 135 = .ok (.getfield 32, 3) := by decide +kernel
theorem dX12_cuts_138 : decode cX12_cuts 138 = .ok (.iload_n 1, 1) := by decide +kernel
theorem dX12_cuts_139 : decode cX12_cuts 139 = .ok (.aaload, 1) := by decide +kernel
theorem dX12_cuts_140 : decode cX12_cuts 140 = .ok (.iload_n 3, 1) := by decide +kernel
theorem dX12_cuts_141 : decode cX12_cuts 141 = .ok (.iaload, 1) := by decide +kernel
theorem dX12_cuts_142 : decode cX12_cuts 142 = .ok (.isub, 1) := by decide +kernel
theorem dX12_cuts_143 : decode cX12_cuts 143 = .ok (.aload_n 0, 1) := by decide +kernel
theorem dX12_cuts_144 : decode cX12_cuts 144 = .ok (.getfield 318, 3) := by decide +kernel
theorem dX12_cuts_147 : decode cX12_cuts 147 = .ok (.invokevirtual 336, 3) := by decide +kernel
theorem dX12_cuts_150 : decode cX12_cuts 150 = .ok (.return_, 1) := by decide +kernel
theorem dX12_lays_0 : decode cX12_lays 0 = .ok (.aload_n 0, 1) := by decide +kernel
theorem dX12_lays_1 : decode cX12_lays 1 = .ok (.aload_n 0, 1) := by decide +kernel
theorem dX12_lays_2 : decode cX12_lays 2 = .ok (.getfield 107, 3) := by decide +kernel
theorem dX12_lays_5 : decode cX12_lays 5 = .ok (.iload_n 1, 1) := by decide +kernel
theorem dX12_lays_6 : decode cX12_lays 6 = .ok (.iaload, 1) := by decide +kernel
theorem dX12_lays_7 : decode cX12_lays 7 = .ok (.putfield 340, 3) := by decide +kernel
theorem dX12_lays_10 : decode cX12_lays 10 = .ok (.aload_n 0, 1) := by decide +kernel
theorem dX12_lays_11 : decode cX12_lays 11 = .ok (.aload_n 0, 1) := by decide +kernel
theorem dX12_lays_12 : decode cX12_lays 12 = .ok (.iload_n 1, 1) := by decide +kernel
theorem dX12_lays_13 : decode cX12_lays 13 = .ok (.aload_n 0, 1) := by decide +kernel
theorem dX12_lays_14 : decode cX12_lays 14 = .ok (.getfield 340, 3) := by decide +kernel
theorem dX12_lays_17 : decode cX12_lays 17 = .ok (.invokevirtual 315, 3) := by decide +kernel
theorem dX12_lays_20 : decode cX12_lays 20 = .ok (.putfield 343, 3) := by decide +kernel
theorem dX12_lays_23 : decode cX12_lays 23 = .ok (.aload_n 0, 1) := by decide +kernel
theorem dX12_lays_24 : decode cX12_lays 24 = .ok (.iconst 0, 1) := by decide +kernel
theorem dX12_lays_25 : decode cX12_lays 25 = .ok (.putfield 333, 3) := by decide +kernel
theorem dX12_lays_28 : decode cX12_lays 28 = .ok (.iconst 0, 1) := by decide +kernel
theorem dX12_lays_29 : decode cX12_lays 29 = .ok (.istore_n 2, 1) := by decide +kernel
theorem dX12_lays_30 : decode cX12_lays 30 = .ok (.iload_n 2, 1) := by decide +kernel
theorem dX12_lays_31 : decode cX12_lays 31 = .ok (.aload_n 0, 1) := by decide +kernel
theorem dX12_lays_32 : decode cX12_lays 32 = .ok (.getfield 343, 3) := by decide +kernel
theorem dX12_lays_35 : decode cX12_lays 35 = .ok (.if_icmp .ge 104, 3) := by decide +kernel
theorem dX12_lays_38 : decode cX12_lays 38 = .ok (.aload_n 0, 1) := by decide +kernel
theorem dX12_lays_39 : decode cX12_lays 39 = .ok (.getfield 119, 3) := by decide +kernel
theorem dX12_lays_42 : decode cX12_lays 42 = .ok (.iload_n 2, 1) := by decide +kernel
theorem dX12_lays_43 : decode cX12_lays 43 = .ok (.aload_n 0, 1) := by decide +kernel
theorem dX12_lays_44 : decode cX12_lays 44 = .ok (.getfield 110, 3) := by decide +kernel
theorem dX12_lays_47 : decode cX12_lays 47 = .ok (.iload_n 1, 1) := by decide +kernel
theorem dX12_lays_48 : decode cX12_lays 48 = .ok (.iaload, 1) := by decide +kernel
theorem dX12_lays_49 : decode cX12_lays 49 = .ok (.iload_n 2, 1) := by decide +kernel
theorem dX12_lays_50 : decode cX12_lays 50 = .ok (.aload_n 0, 1) := by decide +kernel
theorem dX12_lays_51 : decode cX12_lays 51 = .ok (.getfield 85, 3) := by decide +kernel
theorem dX12_lays_54 : decode cX12_lays 54 = .ok (.aload_n 0, 1) := by decide +kernel
theorem dX12_lays_55 : decode cX12_lays 55 = .ok (.getfield 340, 3) := by decide +kernel
theorem dX12_lays_58 : decode cX12_lays 58 = .ok (.iaload, 1) := by decide +kernel
theorem dX12_lays_59 : decode cX12_lays 59 = .ok (.imul, 1) := by decide +kernel
theorem dX12_lays_60 : decode cX12_lays 60 = .ok (.iadd, 1) := by decide +kernel
theorem dX12_lays_61 : decode cX12_lays 61 = .ok (.aload_n 0, 1) := by decide +kernel
theorem dX12_lays_62 : decode cX12_lays 62 = .ok (.getfield 63, 3) := by decide +kernel
theorem dX12_lays_65 : decode cX12_lays 65 = .ok (.iload_n 1, 1) := by decide +kernel
theorem dX12_lays_66 : decode cX12_lays 66 = .ok (.iaload, 1) := by decide +kernel
theorem dX12_lays_67 : decode cX12_lays 67 = .ok (.irem, 1) := by decide +kernel
theorem dX12_lays_68 : decode cX12_lays 68 = .ok (.iastore, 1) := by decide +kernel
theorem dX12_lays_69 : decode cX12_lays 69 = .ok (.aload_n 0, 1) := by decide +kernel
theorem dX12_lays_70 : decode cX12_lays 70 = .ok (.iload_n 1, 1) := by decide +kernel
theorem dX12_lays_71 : decode cX12_lays 71 = .ok (.aload_n 0, 1) := by decide +kernel
theorem dX12_lays_72 : decode cX12_lays 72 = .ok (.getfield 119, 3) := by decide +kernel
theorem dX12_lays_75 : decode cX12_lays 75 = .ok (.iload_n 2, 1) := by decide +kernel
theorem dX12_lays_76 : decode cX12_lays 76 = .ok (.iaload, 1) := by decide +kernel
theorem dX12_lays_77 : decode cX12_lays 77 = .ok (.aload_n 0, 1) := by decide +kernel
theorem dX12_lays_78 : decode cX12_lays 78 = .ok (.iload_n 1, 1) := by decide +kernel
theorem dX12_lays_79 : decode cX12_lays 79 = .ok (.aload_n 0, 1) := by decide +kernel
theorem dX12_lays_80 : decode cX12_lays 80 = .ok (.getfield 340, 3) := by decide +kernel
theorem dX12_lays_83 : decode cX12_lays 83 = .ok (.iload_n 2, 1) := by decide +kernel
theorem dX12_lays_84 : decode cX12_lays 84 = .ok (.invokevirtual 346, 3) := by decide +kernel
theorem dX12_lays_87 : decode cX12_lays 87 = .ok (.invokevirtual 349, 3) := by decide +kernel
theorem dX12_lays_90 : decode cX12_lays 90 = .ok (.aload_n 0, 1) := by decide +kernel
theorem dX12_lays_91 : decode cX12_lays 91 = .ok (.getfield 122, 3) := by decide +kernel
theorem dX12_lays_94 : decode cX12_lays 94 = .ok (.iload_n 2, 1) := by decide +kernel
theorem dX12_lays_95 : decode cX12_lays 95 = .ok (.aload_n 0, 1) := by decide +kernel
theorem dX12_lays_96 : decode cX12_lays 96 = .ok (.getfield 318, 3) := by decide +kernel
theorem dX12_lays_99 : decode cX12_lays 99 = .ok (.iastore, 1) := by decide +kernel
theorem dX12_lays_100 : decode cX12_lays 100 = .ok (.aload_n 0, 1) := by decide +kernel
theorem dX12_lays_101 : decode cX12_lays 101 = .ok (.getfield 125, 3) := by decide +kernel
theorem dX12_lays_104 : decode cX12_lays 104 = .ok (.iload_n 2, 1) := by decide +kernel
theorem dX12_lays_105 : decode cX12_lays 105 = .ok (.aload_n 0, 1) := by decide +kernel
theorem dX12_lays_106 : decode cX12_lays 106 = .ok (.getfield 333, 3) := by decide +kernel
theorem dX12_lays_109 : decode cX12_lays 109 = .ok (.iastore, 1) := by decide +kernel
theorem dX12_lays_110 : decode cX12_lays 110 = .ok (.aload_n 0, 1) := by decide +kernel
theorem dX12_lays_111 : decode cX12_lays 111 = .ok (.iload_n 1, 1) := by decide +kernel
theorem dX12_lays_112 : decode cX12_lays 112 = .ok (.iload_n 2, 1) := by decide +kernel
theorem dX12_lays_113 : decode cX12_lays 113 = .ok (.invokevirtual 352, 3) := by decide +kernel
theorem dX12_lays_116 : decode cX12_lays 116 = .ok (.aload_n 0, 1) := by decide +kernel
theorem dX12_lays_117 : decode cX12_lays 117 = .ok (.getfield 128, 3) := by decide +kernel
theorem dX12_lays_120 : decode cX12_lays 120 = .ok (.iload_n 2, 1) := by decide +kernel
theorem dX12_lays_121 : decode cX12_lays 121 = .ok (.aload_n 0, 1) := by decide +kernel
theorem dX12_lays_122 : decode cX12_lays 122 = .ok (.getfield 333, 3) := by decide +kernel
theorem dX12_lays_125 : decode cX12_lays 125 = .ok (.aload_n 0, 1) := by decide +kernel
theorem dX12_lays_126 : decode cX12_lays 126 = .ok (.getfield 125, 3) := by decide +kernel
theorem dX12_lays_129 : decode cX12_lays 129 = .ok (.iload_n 2, 1) := by decide +kernel
theorem dX12_lays_130 : decode cX12_lays 130 = .ok (.iaload, 1) := by decide +kernel
theorem dX12_lays_131 : decode cX12_lays 131 = .ok (.isub, 1) := by decide +kernel
theorem dX12_lays_132 : decode cX12_lays 132 = .ok (.iastore, 1) := by decide +kernel
theorem dX12_lays_133 : decode cX12_lays 133 = .ok (.iinc 2 1, 3) := by decide +kernel
theorem dX12_lays_136 : decode cX12_lays 136 = .ok (.goto (-106), 3) := by decide +kernel
theorem dX12_lays_139 : decode cX12_lays 139 = .ok (.return_, 1) := by decide +kernel
