theorem d_MD_isMatched_0 : decode b_MD_isMatched 0 = .ok (.aload_n 0, 1) := by decide +kernel
theorem d_MD_isMatched_1 : decode b_MD_isMatched 1 = .ok (.getfield 52, 3) := by decide +kernel
theorem d_MD_isMatched_4 : decode b_MD_isMatched 4 = .ok (.iload_n 1, 1) := by decide +kernel
theorem d_MD_isMatched_5 : decode b_MD_isMatched 5 = .ok (.iaload, 1) := by decide +kernel
theorem d_MD_isMatched_6 : decode b_MD_isMatched 6 = .ok (.istore_n 3, 1) := by decide +kernel
theorem d_MD_isMatched_7 : decode b_MD_isMatched 7 = .ok (.aload_n 0, 1) := by decide +kernel
theorem d_MD_isMatched_8 : decode b_MD_isMatched 8 = .ok (.getfield 52, 3) := by decide +kernel
theorem d_MD_isMatched_11 : decode b_MD_isMatched 11 = .ok (.iload_n 1, 1) := by decide +kernel
theorem d_MD_isMatched_12 : decode b_MD_isMatched 12 = .ok (.iconst 1, 1) := by decide +kernel
theorem d_MD_isMatched_13 : decode b_MD_isMatched 13 = .ok (.iadd, 1) := by decide +kernel
theorem d_MD_isMatched_14 : decode b_MD_isMatched 14 = .ok (.iaload, 1) := by decide +kernel
theorem d_MD_isMatched_15 : decode b_MD_isMatched 15 = .ok (.istore 4, 2) := by decide +kernel
theorem d_MD_isMatched_17 : decode b_MD_isMatched 17 = .ok (.iconst 0, 1) := by decide +kernel
theorem d_MD_isMatched_18 : decode b_MD_isMatched 18 = .ok (.istore 5, 2) := by decide +kernel
theorem d_MD_isMatched_20 : decode b_MD_isMatched 20 = .ok (.iload_n 3, 1) := by decide +kernel
theorem d_MD_isMatched_21 : decode b_MD_isMatched 21 = .ok (.istore 6, 2) := by decide +kernel
theorem d_MD_isMatched_23 : decode b_MD_isMatched 23 = .ok (.iload 6, 2) := by decide +kernel
theorem d_MD_isMatched_25 : decode b_MD_isMatched 25 = .ok (.iload 4, 2) := by decide +kernel
theorem d_MD_isMatched_27 : decode b_MD_isMatched 27 = .ok (.if_icmp .ge 112, 3) := by decide +kernel
theorem d_MD_isMatched_30 : decode b_MD_isMatched 30 = .ok (.aload_n 0, 1) := by decide +kernel
theorem d_MD_isMatched_31 : decode b_MD_isMatched 31 = .ok (.getfield 55, 3) := by decide +kernel
theorem d_MD_isMatched_34 : decode b_MD_isMatched 34 = .ok (.iload 6, 2) := by decide +kernel
theorem d_MD_isMatched_36 : decode b_MD_isMatched 36 = .ok (.iaload, 1) := by decide +kernel
theorem d_MD_isMatched_37 : decode b_MD_isMatched 37 = .ok (.bipush 102, 2) := by decide +kernel
theorem d_MD_isMatched_39 : decode b_MD_isMatched 39 = .ok (.if_icmp .ne 12, 3) := by decide +kernel
theorem d_MD_isMatched_42 : decode b_MD_isMatched 42 = .ok (.iload 5, 2) := by decide +kernel
theorem d_MD_isMatched_44 : decode b_MD_isMatched 44 = .ok (.iconst 1, 1) := by decide +kernel
theorem d_MD_isMatched_45 : decode b_MD_isMatched 45 = .ok (.ixor, 1) := by decide +kernel
theorem d_MD_isMatched_46 : decode b_MD_isMatched 46 = .ok (.istore 5, 2) := by decide +kernel
theorem d_MD_isMatched_48 : decode b_MD_isMatched 48 = .ok (.goto 85, 3) := by decide +kernel
theorem d_MD_isMatched_51 : decode b_MD_isMatched 51 = .ok (.aload_n 0, 1) := by decide +kernel
theorem d_MD_isMatched_52 : decode b_MD_isMatched 52 = .ok (.getfield 55, 3) := by decide +kernel
theorem d_MD_isMatched_55 : decode b_MD_isMatched 55 = .ok (.iload 6, 2) := by decide +kernel
theorem d_MD_isMatched_57 : decode b_MD_isMatched 57 = .ok (.iaload, 1) := by decide +kernel
theorem d_MD_isMatched_58 : decode b_MD_isMatched 58 = .ok (.bipush 100, 2) := by decide +kernel
theorem d_MD_isMatched_60 : decode b_MD_isMatched 60 = .ok (.if_icmp .ne 20, 3) := by decide +kernel
theorem d_MD_isMatched_63 : decode b_MD_isMatched 63 = .ok (.iload 5, 2) := by decide +kernel
theorem d_MD_isMatched_65 : decode b_MD_isMatched 65 = .ok (.iconst 1, 1) := by decide +kernel
theorem d_MD_isMatched_66 : decode b_MD_isMatched 66 = .ok (.ishr, 1) := by decide +kernel
theorem d_MD_isMatched_67 : decode b_MD_isMatched 67 = .ok (.iload 5, 2) := by decide +kernel
theorem d_MD_isMatched_69 : decode b_MD_isMatched 69 = .ok (.iconst 1, 1) := by decide +kernel
theorem d_MD_isMatched_70 : decode b_MD_isMatched 70 = .ok (.iand, 1) := by decide +kernel
theorem d_MD_isMatched_71 : decode b_MD_isMatched 71 = .ok (.bipush (-2), 2) := by decide +kernel
theorem d_MD_isMatched_73 : decode b_MD_isMatched 73 = .ok (.ior, 1) := by decide +kernel
theorem d_MD_isMatched_74 : decode b_MD_isMatched 74 = .ok (.iand, 1) := by decide +kernel
theorem d_MD_isMatched_75 : decode b_MD_isMatched 75 = .ok (.istore 5, 2) := by decide +kernel
theorem d_MD_isMatched_77 : decode b_MD_isMatched 77 = .ok (.goto 56, 3) := by decide +kernel
theorem d_MD_isMatched_80 : decode b_MD_isMatched 80 = .ok (.aload_n 0, 1) := by decide +kernel
theorem d_MD_isMatched_81 : decode b_MD_isMatched 81 = .ok (.getfield 55, 3) := by decide +kernel
theorem d_MD_isMatched_84 : decode b_MD_isMatched 84 = .ok (.iload 6, 2) := by decide +kernel
theorem d_MD_isMatched_86 : decode b_MD_isMatched 86 = .ok (.iaload, 1) := by decide +kernel
theorem d_MD_isMatched_87 : decode b_MD_isMatched 87 = .ok (.bipush 101, 2) := by decide +kernel
theorem d_MD_isMatched_89 : decode b_MD_isMatched 89 = .ok (.if_icmp .ne 17, 3) := by decide +kernel
theorem d_MD_isMatched_92 : decode b_MD_isMatched 92 = .ok (.iload 5, 2) := by decide +kernel
theorem d_MD_isMatched_94 : decode b_MD_isMatched 94 = .ok (.iconst 1, 1) := by decide +kernel
theorem d_MD_isMatched_95 : decode b_MD_isMatched 95 = .ok (.ishr, 1) := by decide +kernel
theorem d_MD_isMatched_96 : decode b_MD_isMatched 96 = .ok (.iload 5, 2) := by decide +kernel
theorem d_MD_isMatched_98 : decode b_MD_isMatched 98 = .ok (.iconst 1, 1) := by decide +kernel
theorem d_MD_isMatched_99 : decode b_MD_isMatched 99 = .ok (.iand, 1) := by decide +kernel
theorem d_MD_isMatched_100 : decode b_MD_isMatched 100 = .ok (.ior, 1) := by decide +kernel
theorem d_MD_isMatched_101 : decode b_MD_isMatched 101 = .ok (.istore 5, 2) := by decide +kernel
theorem d_MD_isMatched_103 : decode b_MD_isMatched 103 = .ok (.goto 30, 3) := by decide +kernel
theorem d_MD_isMatched_106 : decode b_MD_isMatched 106 = .ok (.iconst 2, 1) := by decide +kernel
theorem d_MD_isMatched_107 : decode b_MD_isMatched 107 = .ok (.iload 5, 2) := by decide +kernel
theorem d_MD_isMatched_109 : decode b_MD_isMatched 109 = .ok (.imul, 1) := by decide +kernel
theorem d_MD_isMatched_110 : decode b_MD_isMatched 110 = .ok (.aload_n 0, 1) := by decide +kernel
theorem d_MD_isMatched_111 : decode b_MD_isMatched 111 = .ok (.aload_n 0, 1) := by decide +kernel
theorem d_MD_isMatched_112 : decode b_MD_isMatched 112 = .ok (.getfield 55, 3) := by decide +kernel
theorem d_MD_isMatched_115 : decode b_MD_isMatched 115 = .ok (.iload 6, 2) := by decide +kernel
theorem d_MD_isMatched_117 : decode b_MD_isMatched 117 = .ok (.iaload, 1) := by decide +kernel
theorem d_MD_isMatched_118 : decode b_MD_isMatched 118 = .ok (.iload_n 2, 1) := by decide +kernel
theorem d_MD_isMatched_119 : decode b_MD_isMatched 119 = .ok (.invokevirtual 156, 3) := by decide +kernel
theorem d_MD_isMatched_122 : decode b_MD_isMatched 122 = .ok (.ifCond .eq 7, 3) := by decide +kernel
theorem d_MD_isMatched_125 : decode b_MD_isMatched 125 = .ok (.iconst 1, 1) := by decide +kernel
theorem d_MD_isMatched_126 : decode b_MD_isMatched 126 = .ok (.goto 4, 3) := by decide +kernel
theorem d_MD_isMatched_129 : decode b_MD_isMatched 129 = .ok (.iconst 0, 1) := by decide +kernel
theorem d_MD_isMatched_130 : decode b_MD_isMatched 130 = .ok (.iadd, 1) := by decide +kernel
theorem d_MD_isMatched_131 : decode b_MD_isMatched 131 = .ok (.istore 5, 2) := by decide +kernel
theorem d_MD_isMatched_133 : decode b_MD_isMatched 133 = .ok (.iinc 6 1, 3) := by decide +kernel
theorem d_MD_isMatched_136 : decode b_MD_isMatched 136 = .ok (.goto (-113), 3) := by decide +kernel
theorem d_MD_isMatched_139 : decode b_MD_isMatched 139 = .ok (.iload_n 3, 1) := by decide +kernel
theorem d_MD_isMatched_140 : decode b_MD_isMatched 140 = .ok (.iload 4, 2) := by decide +kernel
theorem d_MD_isMatched_142 : decode b_MD_isMatched 142 = .ok (.if_icmp .eq 11, 3) := by decide +kernel
theorem d_MD_isMatched_145 : decode b_MD_isMatched 145 = .ok (.iload 5, 2) := by decide +kernel
theorem d_MD_isMatched_147 : decode b_MD_isMatched 147 = .ok (.iconst 1, 1) := by decide +kernel
theorem d_MD_isMatched_148 : decode b_MD_isMatched 148 = .ok (.iand, 1) := by decide +kernel
theorem d_MD_isMatched_149 : decode b_MD_isMatched 149 = .ok (.iconst 1, 1) := by decide +kernel
theorem d_MD_isMatched_150 : decode b_MD_isMatched 150 = .ok (.if_icmp .ne 7, 3) := by decide +kernel
theorem d_MD_isMatched_153 : decode b_MD_isMatched 153 = .ok (.iconst 1, 1) := by decide +kernel
theorem d_MD_isMatched_154 : decode b_MD_isMatched 154 = .ok (.goto 4, 3) := by decide +kernel
theorem d_MD_isMatched_157 : decode b_MD_isMatched 157 = .ok (.iconst 0, 1) := by decide +kernel
theorem d_MD_isMatched_158 : decode b_MD_isMatched 158 = .ok (.ireturn, 1) := by decide +kernel
