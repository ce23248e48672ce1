theorem d_MD_shown_0 : decode b_MD_shown 0 = .ok (.iload_n 1, 1) := by decide +kernel
theorem d_MD_shown_1 : decode b_MD_shown 1 = .ok (.istore_n 2, 1) := by decide +kernel
theorem d_MD_shown_2 : decode b_MD_shown 2 = .ok (.iconst 0, 1) := by decide +kernel
theorem d_MD_shown_3 : decode b_MD_shown 3 = .ok (.istore_n 3, 1) := by decide +kernel
theorem d_MD_shown_4 : decode b_MD_shown 4 = .ok (.iload_n 3, 1) := by decide +kernel
theorem d_MD_shown_5 : decode b_MD_shown 5 = .ok (.sipush 1461, 3) := by decide +kernel
theorem d_MD_shown_8 : decode b_MD_shown 8 = .ok (.if_icmp .ge 154, 3) := by decide +kernel
theorem d_MD_shown_11 : decode b_MD_shown 11 = .ok (.aload_n 0, 1) := by decide +kernel
theorem d_MD_shown_12 : decode b_MD_shown 12 = .ok (.iload_n 3, 1) := by decide +kernel
theorem d_MD_shown_13 : decode b_MD_shown 13 = .ok (.iconst 4, 1) := by decide +kernel
theorem d_MD_shown_14 : decode b_MD_shown 14 = .ok (.invokevirtual 183, 3) := by decide +kernel
theorem d_MD_shown_17 : decode b_MD_shown 17 = .ok (.ifCond .eq 7, 3) := by decide +kernel
theorem d_MD_shown_20 : decode b_MD_shown 20 = .ok (.iconst 2, 1) := by decide +kernel
theorem d_MD_shown_21 : decode b_MD_shown 21 = .ok (.goto 4, 3) := by decide +kernel
theorem d_MD_shown_24 : decode b_MD_shown 24 = .ok (.iconst 0, 1) := by decide +kernel
theorem d_MD_shown_25 : decode b_MD_shown 25 = .ok (.istore 4, 2) := by decide +kernel
theorem d_MD_shown_27 : decode b_MD_shown 27 = .ok (.aload_n 0, 1) := by decide +kernel
theorem d_MD_shown_28 : decode b_MD_shown 28 = .ok (.iload_n 3, 1) := by decide +kernel
theorem d_MD_shown_29 : decode b_MD_shown 29 = .ok (.iconst 4, 1) := by decide +kernel
theorem d_MD_shown_30 : decode b_MD_shown 30 = .ok (.invokevirtual 189, 3) := by decide +kernel
theorem d_MD_shown_33 : decode b_MD_shown 33 = .ok (.ifCond .eq 7, 3) := by decide +kernel
theorem d_MD_shown_36 : decode b_MD_shown 36 = .ok (.iconst 2, 1) := by decide +kernel
theorem d_MD_shown_37 : decode b_MD_shown 37 = .ok (.goto 4, 3) := by decide +kernel
theorem d_MD_shown_40 : decode b_MD_shown 40 = .ok (.iconst 0, 1) := by decide +kernel
theorem d_MD_shown_41 : decode b_MD_shown 41 = .ok (.istore 5, 2) := by decide +kernel
theorem d_MD_shown_43 : decode b_MD_shown 43 = .ok (.bipush 48, 2) := by decide +kernel
theorem d_MD_shown_45 : decode b_MD_shown 45 = .ok (.iload 4, 2) := by decide +kernel
theorem d_MD_shown_47 : decode b_MD_shown 47 = .ok (.isub, 1) := by decide +kernel
theorem d_MD_shown_48 : decode b_MD_shown 48 = .ok (.iload 5, 2) := by decide +kernel
theorem d_MD_shown_50 : decode b_MD_shown 50 = .ok (.iadd, 1) := by decide +kernel
theorem d_MD_shown_51 : decode b_MD_shown 51 = .ok (.istore 6, 2) := by decide +kernel
theorem d_MD_shown_53 : decode b_MD_shown 53 = .ok (.iload_n 2, 1) := by decide +kernel
theorem d_MD_shown_54 : decode b_MD_shown 54 = .ok (.ifCond .lt 97, 3) := by decide +kernel
theorem d_MD_shown_57 : decode b_MD_shown 57 = .ok (.iload_n 2, 1) := by decide +kernel
theorem d_MD_shown_58 : decode b_MD_shown 58 = .ok (.iload 6, 2) := by decide +kernel
theorem d_MD_shown_60 : decode b_MD_shown 60 = .ok (.if_icmp .ge 91, 3) := by decide +kernel
theorem d_MD_shown_63 : decode b_MD_shown 63 = .ok (.iload_n 2, 1) := by decide +kernel
theorem d_MD_shown_64 : decode b_MD_shown 64 = .ok (.iconst 4, 1) := by decide +kernel
theorem d_MD_shown_65 : decode b_MD_shown 65 = .ok (.if_icmp .ge 7, 3) := by decide +kernel
theorem d_MD_shown_68 : decode b_MD_shown 68 = .ok (.iload_n 2, 1) := by decide +kernel
theorem d_MD_shown_69 : decode b_MD_shown 69 = .ok (.goto 31, 3) := by decide +kernel
theorem d_MD_shown_72 : decode b_MD_shown 72 = .ok (.iload 4, 2) := by decide +kernel
theorem d_MD_shown_74 : decode b_MD_shown 74 = .ok (.ifCond .le 9, 3) := by decide +kernel
theorem d_MD_shown_77 : decode b_MD_shown 77 = .ok (.iload_n 2, 1) := by decide +kernel
theorem d_MD_shown_78 : decode b_MD_shown 78 = .ok (.iconst 2, 1) := by decide +kernel
theorem d_MD_shown_79 : decode b_MD_shown 79 = .ok (.iadd, 1) := by decide +kernel
theorem d_MD_shown_80 : decode b_MD_shown 80 = .ok (.goto 20, 3) := by decide +kernel
theorem d_MD_shown_83 : decode b_MD_shown 83 = .ok (.iload 5, 2) := by decide +kernel
theorem d_MD_shown_85 : decode b_MD_shown 85 = .ok (.ifCond .le 14, 3) := by decide +kernel
theorem d_MD_shown_88 : decode b_MD_shown 88 = .ok (.iload_n 2, 1) := by decide +kernel
theorem d_MD_shown_89 : decode b_MD_shown 89 = .ok (.iconst 5, 1) := by decide +kernel
theorem d_MD_shown_90 : decode b_MD_shown 90 = .ok (.if_icmp .le 9, 3) := by decide +kernel
theorem d_MD_shown_93 : decode b_MD_shown 93 = .ok (.iload_n 2, 1) := by decide +kernel
theorem d_MD_shown_94 : decode b_MD_shown 94 = .ok (.iconst 2, 1) := by decide +kernel
theorem d_MD_shown_95 : decode b_MD_shown 95 = .ok (.isub, 1) := by decide +kernel
theorem d_MD_shown_96 : decode b_MD_shown 96 = .ok (.goto 4, 3) := by decide +kernel
theorem d_MD_shown_99 : decode b_MD_shown 99 = .ok (.iload_n 2, 1) := by decide +kernel
theorem d_MD_shown_100 : decode b_MD_shown 100 = .ok (.istore 7, 2) := by decide +kernel
theorem d_MD_shown_102 : decode b_MD_shown 102 = .ok (.iload 5, 2) := by decide +kernel
theorem d_MD_shown_104 : decode b_MD_shown 104 = .ok (.ifCond .eq 15, 3) := by decide +kernel
theorem d_MD_shown_107 : decode b_MD_shown 107 = .ok (.iload 7, 2) := by decide +kernel
theorem d_MD_shown_109 : decode b_MD_shown 109 = .ok (.iconst 4, 1) := by decide +kernel
theorem d_MD_shown_110 : decode b_MD_shown 110 = .ok (.if_icmp .lt 9, 3) := by decide +kernel
theorem d_MD_shown_113 : decode b_MD_shown 113 = .ok (.iload 7, 2) := by decide +kernel
theorem d_MD_shown_115 : decode b_MD_shown 115 = .ok (.iconst 5, 1) := by decide +kernel
theorem d_MD_shown_116 : decode b_MD_shown 116 = .ok (.if_icmp .le 7, 3) := by decide +kernel
theorem d_MD_shown_119 : decode b_MD_shown 119 = .ok (.iconst 0, 1) := by decide +kernel
theorem d_MD_shown_120 : decode b_MD_shown 120 = .ok (.goto 14, 3) := by decide +kernel
theorem d_MD_shown_123 : decode b_MD_shown 123 = .ok (.iload_n 2, 1) := by decide +kernel
theorem d_MD_shown_124 : decode b_MD_shown 124 = .ok (.bipush 6, 2) := by decide +kernel
theorem d_MD_shown_126 : decode b_MD_shown 126 = .ok (.if_icmp .ge 7, 3) := by decide +kernel
theorem d_MD_shown_129 : decode b_MD_shown 129 = .ok (.iconst 1, 1) := by decide +kernel
theorem d_MD_shown_130 : decode b_MD_shown 130 = .ok (.goto 4, 3) := by decide +kernel
theorem d_MD_shown_133 : decode b_MD_shown 133 = .ok (.iconst 2, 1) := by decide +kernel
theorem d_MD_shown_134 : decode b_MD_shown 134 = .ok (.istore 8, 2) := by decide +kernel
theorem d_MD_shown_136 : decode b_MD_shown 136 = .ok (.sipush 1000, 3) := by decide +kernel
theorem d_MD_shown_139 : decode b_MD_shown 139 = .ok (.iload_n 3, 1) := by decide +kernel
theorem d_MD_shown_140 : decode b_MD_shown 140 = .ok (.imul, 1) := by decide +kernel
theorem d_MD_shown_141 : decode b_MD_shown 141 = .ok (.bipush 10, 2) := by decide +kernel
theorem d_MD_shown_143 : decode b_MD_shown 143 = .ok (.iload 7, 2) := by decide +kernel
theorem d_MD_shown_145 : decode b_MD_shown 145 = .ok (.imul, 1) := by decide +kernel
theorem d_MD_shown_146 : decode b_MD_shown 146 = .ok (.iadd, 1) := by decide +kernel
theorem d_MD_shown_147 : decode b_MD_shown 147 = .ok (.iload 8, 2) := by decide +kernel
theorem d_MD_shown_149 : decode b_MD_shown 149 = .ok (.iadd, 1) := by decide +kernel
theorem d_MD_shown_150 : decode b_MD_shown 150 = .ok (.ireturn, 1) := by decide +kernel
theorem d_MD_shown_151 : decode b_MD_shown 151 = .ok (.iload_n 2, 1) := by decide +kernel
theorem d_MD_shown_152 : decode b_MD_shown 152 = .ok (.iload 6, 2) := by decide +kernel
theorem d_MD_shown_154 : decode b_MD_shown 154 = .ok (.isub, 1) := by decide +kernel
theorem d_MD_shown_155 : decode b_MD_shown 155 = .ok (.istore_n 2, 1) := by decide +kernel
theorem d_MD_shown_156 : decode b_MD_shown 156 = .ok (.iinc 3 1, 3) := by decide +kernel
theorem d_MD_shown_159 : decode b_MD_shown 159 = .ok (.goto (-155), 3) := by decide +kernel
theorem d_MD_shown_162 : decode b_MD_shown 162 = .ok (.iconst (-1), 1) := by decide +kernel
theorem d_MD_shown_163 : decode b_MD_shown 163 = .ok (.ireturn, 1) := by decide +kernel
theorem d_MD_clock_0 : decode b_MD_clock 0 = .ok (.aload_n 0, 1) := by decide +kernel
theorem d_MD_clock_1 : decode b_MD_clock 1 = .ok (.iconst 0, 1) := by decide +kernel
theorem d_MD_clock_2 : decode b_MD_clock 2 = .ok (.putfield 75, 3) := by decide +kernel
theorem d_MD_clock_5 : decode b_MD_clock 5 = .ok (.iload_n 1, 1) := by decide +kernel
theorem d_MD_clock_6 : decode b_MD_clock 6 = .ok (.ifCond .ge 7, 3) := by decide +kernel
theorem d_MD_clock_9 : decode b_MD_clock 9 = .ok (.iconst (-1), 1) := by decide +kernel
theorem d_MD_clock_10 : decode b_MD_clock 10 = .ok (.goto 8, 3) := by decide +kernel
theorem d_MD_clock_13 : decode b_MD_clock 13 = .ok (.aload_n 0, 1) := by decide +kernel
theorem d_MD_clock_14 : decode b_MD_clock 14 = .ok (.iload_n 1, 1) := by decide +kernel
theorem d_MD_clock_15 : decode b_MD_clock 15 = .ok (.invokevirtual 199, 3) := by decide +kernel
theorem d_MD_clock_18 : decode b_MD_clock 18 = .ok (.ireturn, 1) := by decide +kernel
