theorem d_MD_takeCycle_0 : decode b_MD_takeCycle 0 = .ok (.iload_n 3, 1) := by decide +kernel
theorem d_MD_takeCycle_1 : decode b_MD_takeCycle 1 = .ok (.iconst 0, 1) := by decide +kernel
theorem d_MD_takeCycle_2 : decode b_MD_takeCycle 2 = .ok (.bipush 9, 2) := by decide +kernel
theorem d_MD_takeCycle_4 : decode b_MD_takeCycle 4 = .ok (.invokestatic 124, 3) := by decide +kernel
theorem d_MD_takeCycle_7 : decode b_MD_takeCycle 7 = .ok (.istore 4, 2) := by decide +kernel
theorem d_MD_takeCycle_9 : decode b_MD_takeCycle 9 = .ok (.iload_n 2, 1) := by decide +kernel
theorem d_MD_takeCycle_10 : decode b_MD_takeCycle 10 = .ok (.iconst 2, 1) := by decide +kernel
theorem d_MD_takeCycle_11 : decode b_MD_takeCycle 11 = .ok (.if_icmp .ge 48, 3) := by decide +kernel
theorem d_MD_takeCycle_14 : decode b_MD_takeCycle 14 = .ok (.aload_n 0, 1) := by decide +kernel
theorem d_MD_takeCycle_15 : decode b_MD_takeCycle 15 = .ok (.getfield 61, 3) := by decide +kernel
theorem d_MD_takeCycle_18 : decode b_MD_takeCycle 18 = .ok (.iload_n 1, 1) := by decide +kernel
theorem d_MD_takeCycle_19 : decode b_MD_takeCycle 19 = .ok (.bipush 10, 2) := by decide +kernel
theorem d_MD_takeCycle_21 : decode b_MD_takeCycle 21 = .ok (.aload_n 0, 1) := by decide +kernel
theorem d_MD_takeCycle_22 : decode b_MD_takeCycle 22 = .ok (.getfield 61, 3) := by decide +kernel
theorem d_MD_takeCycle_25 : decode b_MD_takeCycle 25 = .ok (.iload_n 1, 1) := by decide +kernel
theorem d_MD_takeCycle_26 : decode b_MD_takeCycle 26 = .ok (.iaload, 1) := by decide +kernel
theorem d_MD_takeCycle_27 : decode b_MD_takeCycle 27 = .ok (.imul, 1) := by decide +kernel
theorem d_MD_takeCycle_28 : decode b_MD_takeCycle 28 = .ok (.iload_n 3, 1) := by decide +kernel
theorem d_MD_takeCycle_29 : decode b_MD_takeCycle 29 = .ok (.iadd, 1) := by decide +kernel
theorem d_MD_takeCycle_30 : decode b_MD_takeCycle 30 = .ok (.iastore, 1) := by decide +kernel
theorem d_MD_takeCycle_31 : decode b_MD_takeCycle 31 = .ok (.iload 4, 2) := by decide +kernel
theorem d_MD_takeCycle_33 : decode b_MD_takeCycle 33 = .ok (.ifCond .eq 20, 3) := by decide +kernel
theorem d_MD_takeCycle_36 : decode b_MD_takeCycle 36 = .ok (.iload_n 2, 1) := by decide +kernel
theorem d_MD_takeCycle_37 : decode b_MD_takeCycle 37 = .ok (.ifCond .eq 12, 3) := by decide +kernel
theorem d_MD_takeCycle_40 : decode b_MD_takeCycle 40 = .ok (.aload_n 0, 1) := by decide +kernel
theorem d_MD_takeCycle_41 : decode b_MD_takeCycle 41 = .ok (.getfield 61, 3) := by decide +kernel
theorem d_MD_takeCycle_44 : decode b_MD_takeCycle 44 = .ok (.iload_n 1, 1) := by decide +kernel
theorem d_MD_takeCycle_45 : decode b_MD_takeCycle 45 = .ok (.iaload, 1) := by decide +kernel
theorem d_MD_takeCycle_46 : decode b_MD_takeCycle 46 = .ok (.ifCond .le 7, 3) := by decide +kernel
theorem d_MD_takeCycle_49 : decode b_MD_takeCycle 49 = .ok (.iconst 1, 1) := by decide +kernel
theorem d_MD_takeCycle_50 : decode b_MD_takeCycle 50 = .ok (.goto 4, 3) := by decide +kernel
theorem d_MD_takeCycle_53 : decode b_MD_takeCycle 53 = .ok (.iconst 0, 1) := by decide +kernel
theorem d_MD_takeCycle_54 : decode b_MD_takeCycle 54 = .ok (.istore 4, 2) := by decide +kernel
theorem d_MD_takeCycle_56 : decode b_MD_takeCycle 56 = .ok (.goto 56, 3) := by decide +kernel
theorem d_MD_takeCycle_59 : decode b_MD_takeCycle 59 = .ok (.aload_n 0, 1) := by decide +kernel
theorem d_MD_takeCycle_60 : decode b_MD_takeCycle 60 = .ok (.getfield 64, 3) := by decide +kernel
theorem d_MD_takeCycle_63 : decode b_MD_takeCycle 63 = .ok (.iload_n 1, 1) := by decide +kernel
theorem d_MD_takeCycle_64 : decode b_MD_takeCycle 64 = .ok (.iload_n 2, 1) := by decide +kernel
theorem d_MD_takeCycle_65 : decode b_MD_takeCycle 65 = .ok (.iconst 2, 1) := by decide +kernel
theorem d_MD_takeCycle_66 : decode b_MD_takeCycle 66 = .ok (.if_icmp .ne 10, 3) := by decide +kernel
theorem d_MD_takeCycle_69 : decode b_MD_takeCycle 69 = .ok (.bipush 10, 2) := by decide +kernel
theorem d_MD_takeCycle_71 : decode b_MD_takeCycle 71 = .ok (.iload_n 3, 1) := by decide +kernel
theorem d_MD_takeCycle_72 : decode b_MD_takeCycle 72 = .ok (.imul, 1) := by decide +kernel
theorem d_MD_takeCycle_73 : decode b_MD_takeCycle 73 = .ok (.goto 11, 3) := by decide +kernel
theorem d_MD_takeCycle_76 : decode b_MD_takeCycle 76 = .ok (.aload_n 0, 1) := by decide +kernel
theorem d_MD_takeCycle_77 : decode b_MD_takeCycle 77 = .ok (.getfield 64, 3) := by decide +kernel
theorem d_MD_takeCycle_80 : decode b_MD_takeCycle 80 = .ok (.iload_n 1, 1) := by decide +kernel
theorem d_MD_takeCycle_81 : decode b_MD_takeCycle 81 = .ok (.iaload, 1) := by decide +kernel
theorem d_MD_takeCycle_82 : decode b_MD_takeCycle 82 = .ok (.iload_n 3, 1) := by decide +kernel
theorem d_MD_takeCycle_83 : decode b_MD_takeCycle 83 = .ok (.iadd, 1) := by decide +kernel
theorem d_MD_takeCycle_84 : decode b_MD_takeCycle 84 = .ok (.iastore, 1) := by decide +kernel
theorem d_MD_takeCycle_85 : decode b_MD_takeCycle 85 = .ok (.iload 4, 2) := by decide +kernel
theorem d_MD_takeCycle_87 : decode b_MD_takeCycle 87 = .ok (.ifCond .eq 22, 3) := by decide +kernel
theorem d_MD_takeCycle_90 : decode b_MD_takeCycle 90 = .ok (.aload_n 0, 1) := by decide +kernel
theorem d_MD_takeCycle_91 : decode b_MD_takeCycle 91 = .ok (.getfield 64, 3) := by decide +kernel
theorem d_MD_takeCycle_94 : decode b_MD_takeCycle 94 = .ok (.iload_n 1, 1) := by decide +kernel
theorem d_MD_takeCycle_95 : decode b_MD_takeCycle 95 = .ok (.iaload, 1) := by decide +kernel
theorem d_MD_takeCycle_96 : decode b_MD_takeCycle 96 = .ok (.aload_n 0, 1) := by decide +kernel
theorem d_MD_takeCycle_97 : decode b_MD_takeCycle 97 = .ok (.getfield 61, 3) := by decide +kernel
theorem d_MD_takeCycle_100 : decode b_MD_takeCycle 100 = .ok (.iload_n 1, 1) := by decide +kernel
theorem d_MD_takeCycle_101 : decode b_MD_takeCycle 101 = .ok (.iaload, 1) := by decide +kernel
theorem d_MD_takeCycle_102 : decode b_MD_takeCycle 102 = .ok (.if_icmp .ge 7, 3) := by decide +kernel
theorem d_MD_takeCycle_105 : decode b_MD_takeCycle 105 = .ok (.iconst 1, 1) := by decide +kernel
theorem d_MD_takeCycle_106 : decode b_MD_takeCycle 106 = .ok (.goto 4, 3) := by decide +kernel
theorem d_MD_takeCycle_109 : decode b_MD_takeCycle 109 = .ok (.iconst 0, 1) := by decide +kernel
theorem d_MD_takeCycle_110 : decode b_MD_takeCycle 110 = .ok (.istore 4, 2) := by decide +kernel
theorem d_MD_takeCycle_112 : decode b_MD_takeCycle 112 = .ok (.aload_n 0, 1) := by decide +kernel
theorem d_MD_takeCycle_113 : decode b_MD_takeCycle 113 = .ok (.iload 4, 2) := by decide +kernel
theorem d_MD_takeCycle_115 : decode b_MD_takeCycle 115 = .ok (.bipush 24, 2) := by decide +kernel
theorem d_MD_takeCycle_117 : decode b_MD_takeCycle 117 = .ok (.iload_n 1, 1) := by decide +kernel
theorem d_MD_takeCycle_118 : decode b_MD_takeCycle 118 = .ok (.iload_n 2, 1) := by decide +kernel
theorem d_MD_takeCycle_119 : decode b_MD_takeCycle 119 = .ok (.iconst 3, 1) := by decide +kernel
theorem d_MD_takeCycle_120 : decode b_MD_takeCycle 120 = .ok (.invokevirtual 134, 3) := by decide +kernel
theorem d_MD_takeCycle_123 : decode b_MD_takeCycle 123 = .ok (.ireturn, 1) := by decide +kernel
theorem d_MD_takeYears_0 : decode b_MD_takeYears 0 = .ok (.iload_n 3, 1) := by decide +kernel
theorem d_MD_takeYears_1 : decode b_MD_takeYears 1 = .ok (.bipush 48, 2) := by decide +kernel
theorem d_MD_takeYears_3 : decode b_MD_takeYears 3 = .ok (.isub, 1) := by decide +kernel
theorem d_MD_takeYears_4 : decode b_MD_takeYears 4 = .ok (.istore 4, 2) := by decide +kernel
theorem d_MD_takeYears_6 : decode b_MD_takeYears 6 = .ok (.iload_n 2, 1) := by decide +kernel
theorem d_MD_takeYears_7 : decode b_MD_takeYears 7 = .ok (.tableswitch 140 0 7 #[45, 67, 67, 88, 118, 45, 67, 67], 45) := by decide +kernel
theorem d_MD_takeYears_52 : decode b_MD_takeYears 52 = .ok (.aload_n 0, 1) := by decide +kernel
theorem d_MD_takeYears_53 : decode b_MD_takeYears 53 = .ok (.iload 4, 2) := by decide +kernel
theorem d_MD_takeYears_55 : decode b_MD_takeYears 55 = .ok (.iconst 2, 1) := by decide +kernel
theorem d_MD_takeYears_56 : decode b_MD_takeYears 56 = .ok (.if_icmp .ne 7, 3) := by decide +kernel
theorem d_MD_takeYears_59 : decode b_MD_takeYears 59 = .ok (.iconst 1, 1) := by decide +kernel
theorem d_MD_takeYears_60 : decode b_MD_takeYears 60 = .ok (.goto 4, 3) := by decide +kernel
theorem d_MD_takeYears_63 : decode b_MD_takeYears 63 = .ok (.iconst 0, 1) := by decide +kernel
theorem d_MD_takeYears_64 : decode b_MD_takeYears 64 = .ok (.bipush 26, 2) := by decide +kernel
theorem d_MD_takeYears_66 : decode b_MD_takeYears 66 = .ok (.iload_n 1, 1) := by decide +kernel
theorem d_MD_takeYears_67 : decode b_MD_takeYears 67 = .ok (.iload_n 2, 1) := by decide +kernel
theorem d_MD_takeYears_68 : decode b_MD_takeYears 68 = .ok (.bipush 8, 2) := by decide +kernel
theorem d_MD_takeYears_70 : decode b_MD_takeYears 70 = .ok (.invokevirtual 134, 3) := by decide +kernel
theorem d_MD_takeYears_73 : decode b_MD_takeYears 73 = .ok (.ireturn, 1) := by decide +kernel
theorem d_MD_takeYears_74 : decode b_MD_takeYears 74 = .ok (.aload_n 0, 1) := by decide +kernel
theorem d_MD_takeYears_75 : decode b_MD_takeYears 75 = .ok (.iload 4, 2) := by decide +kernel
theorem d_MD_takeYears_77 : decode b_MD_takeYears 77 = .ok (.ifCond .ne 7, 3) := by decide +kernel
theorem d_MD_takeYears_80 : decode b_MD_takeYears 80 = .ok (.iconst 1, 1) := by decide +kernel
theorem d_MD_takeYears_81 : decode b_MD_takeYears 81 = .ok (.goto 4, 3) := by decide +kernel
theorem d_MD_takeYears_84 : decode b_MD_takeYears 84 = .ok (.iconst 0, 1) := by decide +kernel
theorem d_MD_takeYears_85 : decode b_MD_takeYears 85 = .ok (.bipush 26, 2) := by decide +kernel
theorem d_MD_takeYears_87 : decode b_MD_takeYears 87 = .ok (.iload_n 1, 1) := by decide +kernel
theorem d_MD_takeYears_88 : decode b_MD_takeYears 88 = .ok (.iload_n 2, 1) := by decide +kernel
theorem d_MD_takeYears_89 : decode b_MD_takeYears 89 = .ok (.bipush 8, 2) := by decide +kernel
theorem d_MD_takeYears_91 : decode b_MD_takeYears 91 = .ok (.invokevirtual 134, 3) := by decide +kernel
theorem d_MD_takeYears_94 : decode b_MD_takeYears 94 = .ok (.ireturn, 1) := by decide +kernel
theorem d_MD_takeYears_95 : decode b_MD_takeYears 95 = .ok (.aload_n 0, 1) := by decide +kernel
theorem d_MD_takeYears_96 : decode b_MD_takeYears 96 = .ok (.getfield 61, 3) := by decide +kernel
theorem d_MD_takeYears_99 : decode b_MD_takeYears 99 = .ok (.iload_n 1, 1) := by decide +kernel
theorem d_MD_takeYears_100 : decode b_MD_takeYears 100 = .ok (.sipush 2000, 3) := by decide +kernel
theorem d_MD_takeYears_103 : decode b_MD_takeYears 103 = .ok (.iload 4, 2) := by decide +kernel
theorem d_MD_takeYears_105 : decode b_MD_takeYears 105 = .ok (.iadd, 1) := by decide +kernel
theorem d_MD_takeYears_106 : decode b_MD_takeYears 106 = .ok (.iastore, 1) := by decide +kernel
theorem d_MD_takeYears_107 : decode b_MD_takeYears 107 = .ok (.aload_n 0, 1) := by decide +kernel
theorem d_MD_takeYears_108 : decode b_MD_takeYears 108 = .ok (.iload 4, 2) := by decide +kernel
theorem d_MD_takeYears_110 : decode b_MD_takeYears 110 = .ok (.iconst 0, 1) := by decide +kernel
theorem d_MD_takeYears_111 : decode b_MD_takeYears 111 = .ok (.iconst 3, 1) := by decide +kernel
theorem d_MD_takeYears_112 : decode b_MD_takeYears 112 = .ok (.invokestatic 124, 3) := by decide +kernel
theorem d_MD_takeYears_115 : decode b_MD_takeYears 115 = .ok (.bipush 26, 2) := by decide +kernel
theorem d_MD_takeYears_117 : decode b_MD_takeYears 117 = .ok (.iload_n 1, 1) := by decide +kernel
theorem d_MD_takeYears_118 : decode b_MD_takeYears 118 = .ok (.iload_n 2, 1) := by decide +kernel
theorem d_MD_takeYears_119 : decode b_MD_takeYears 119 = .ok (.bipush 8, 2) := by decide +kernel
theorem d_MD_takeYears_121 : decode b_MD_takeYears 121 = .ok (.invokevirtual 134, 3) := by decide +kernel
theorem d_MD_takeYears_124 : decode b_MD_takeYears 124 = .ok (.ireturn, 1) := by decide +kernel
theorem d_MD_takeYears_125 : decode b_MD_takeYears 125 = .ok (.aload_n 0, 1) := by decide +kernel
theorem d_MD_takeYears_126 : decode b_MD_takeYears 126 = .ok (.iload_n 3, 1) := by decide +kernel
theorem d_MD_takeYears_127 : decode b_MD_takeYears 127 = .ok (.bipush 45, 2) := by decide +kernel
theorem d_MD_takeYears_129 : decode b_MD_takeYears 129 = .ok (.if_icmp .ne 7, 3) := by decide +kernel
theorem d_MD_takeYears_132 : decode b_MD_takeYears 132 = .ok (.iconst 1, 1) := by decide +kernel
theorem d_MD_takeYears_133 : decode b_MD_takeYears 133 = .ok (.goto 4, 3) := by decide +kernel
theorem d_MD_takeYears_136 : decode b_MD_takeYears 136 = .ok (.iconst 0, 1) := by decide +kernel
theorem d_MD_takeYears_137 : decode b_MD_takeYears 137 = .ok (.bipush 26, 2) := by decide +kernel
theorem d_MD_takeYears_139 : decode b_MD_takeYears 139 = .ok (.iload_n 1, 1) := by decide +kernel
theorem d_MD_takeYears_140 : decode b_MD_takeYears 140 = .ok (.iload_n 2, 1) := by decide +kernel
theorem d_MD_takeYears_141 : decode b_MD_takeYears 141 = .ok (.bipush 8, 2) := by decide +kernel
theorem d_MD_takeYears_143 : decode b_MD_takeYears 143 = .ok (.invokevirtual 134, 3) := by decide +kernel
theorem d_MD_takeYears_146 : decode b_MD_takeYears 146 = .ok (.ireturn, 1) := by decide +kernel
theorem d_MD_takeYears_147 : decode b_MD_takeYears 147 = .ok (.aload_n 0, 1) := by decide +kernel
theorem d_MD_takeYears_148 : decode b_MD_takeYears 148 = .ok (.getfield 64, 3) := by decide +kernel
theorem d_MD_takeYears_151 : decode b_MD_takeYears 151 = .ok (.iload_n 1, 1) := by decide +kernel
theorem d_MD_takeYears_152 : decode b_MD_takeYears 152 = .ok (.sipush 2000, 3) := by decide +kernel
theorem d_MD_takeYears_155 : decode b_MD_takeYears 155 = .ok (.iload 4, 2) := by decide +kernel
theorem d_MD_takeYears_157 : decode b_MD_takeYears 157 = .ok (.iadd, 1) := by decide +kernel
theorem d_MD_takeYears_158 : decode b_MD_takeYears 158 = .ok (.iastore, 1) := by decide +kernel
theorem d_MD_takeYears_159 : decode b_MD_takeYears 159 = .ok (.aload_n 0, 1) := by decide +kernel
theorem d_MD_takeYears_160 : decode b_MD_takeYears 160 = .ok (.iload 4, 2) := by decide +kernel
theorem d_MD_takeYears_162 : decode b_MD_takeYears 162 = .ok (.aload_n 0, 1) := by decide +kernel
theorem d_MD_takeYears_163 : decode b_MD_takeYears 163 = .ok (.getfield 61, 3) := by decide +kernel
theorem d_MD_takeYears_166 : decode b_MD_takeYears 166 = .ok (.iload_n 1, 1) := by decide +kernel
theorem d_MD_takeYears_167 : decode b_MD_takeYears 167 = .ok (.iaload, 1) := by decide +kernel
theorem d_MD_takeYears_168 : decode b_MD_takeYears 168 = .ok (.sipush 2000, 3) := by decide +kernel
theorem d_MD_takeYears_171 : decode b_MD_takeYears 171 = .ok (.isub, 1) := by decide +kernel
theorem d_MD_takeYears_172 : decode b_MD_takeYears 172 = .ok (.iconst 3, 1) := by decide +kernel
theorem d_MD_takeYears_173 : decode b_MD_takeYears 173 = .ok (.invokestatic 124, 3) := by decide +kernel
theorem d_MD_takeYears_176 : decode b_MD_takeYears 176 = .ok (.bipush 26, 2) := by decide +kernel
theorem d_MD_takeYears_178 : decode b_MD_takeYears 178 = .ok (.iload_n 1, 1) := by decide +kernel
theorem d_MD_takeYears_179 : decode b_MD_takeYears 179 = .ok (.iload_n 2, 1) := by decide +kernel
theorem d_MD_takeYears_180 : decode b_MD_takeYears 180 = .ok (.bipush 8, 2) := by decide +kernel
theorem d_MD_takeYears_182 : decode b_MD_takeYears 182 = .ok (.invokevirtual 134, 3) := by decide +kernel
theorem d_MD_takeYears_185 : decode b_MD_takeYears 185 = .ok (.ireturn, 1) := by decide +kernel
