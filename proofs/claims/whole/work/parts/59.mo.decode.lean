theorem d_MD_compile_0 : decode b_MD_compile 0 = .ok (.aload_n 0, 1) := by decide +kernel
theorem d_MD_compile_1 : decode b_MD_compile 1 = .ok (.iload_n 1, 1) := by decide +kernel
theorem d_MD_compile_2 : decode b_MD_compile 2 = .ok (.ifCond .lt 8, 3) := by decide +kernel
theorem d_MD_compile_5 : decode b_MD_compile 5 = .ok (.iload_n 1, 1) := by decide +kernel
theorem d_MD_compile_6 : decode b_MD_compile 6 = .ok (.iconst 2, 1) := by decide +kernel
theorem d_MD_compile_7 : decode b_MD_compile 7 = .ok (.if_icmp .le 7, 3) := by decide +kernel
theorem d_MD_compile_10 : decode b_MD_compile 10 = .ok (.iconst 1, 1) := by decide +kernel
theorem d_MD_compile_11 : decode b_MD_compile 11 = .ok (.goto 4, 3) := by decide +kernel
theorem d_MD_compile_14 : decode b_MD_compile 14 = .ok (.iconst 0, 1) := by decide +kernel
theorem d_MD_compile_15 : decode b_MD_compile 15 = .ok (.invokevirtual 159, 3) := by decide +kernel
theorem d_MD_compile_18 : decode b_MD_compile 18 = .ok (.ifCond .eq 5, 3) := by decide +kernel
theorem d_MD_compile_21 : decode b_MD_compile 21 = .ok (.iconst 0, 1) := by decide +kernel
theorem d_MD_compile_22 : decode b_MD_compile 22 = .ok (.ireturn, 1) := by decide +kernel
theorem d_MD_compile_23 : decode b_MD_compile 23 = .ok (.aload_n 0, 1) := by decide +kernel
theorem d_MD_compile_24 : decode b_MD_compile 24 = .ok (.invokevirtual 163, 3) := by decide +kernel
theorem d_MD_compile_27 : decode b_MD_compile 27 = .ok (.istore_n 2, 1) := by decide +kernel
theorem d_MD_compile_28 : decode b_MD_compile 28 = .ok (.iload_n 2, 1) := by decide +kernel
theorem d_MD_compile_29 : decode b_MD_compile 29 = .ok (.ifCond .lt 7, 3) := by decide +kernel
theorem d_MD_compile_32 : decode b_MD_compile 32 = .ok (.iconst (-1), 1) := by decide +kernel
theorem d_MD_compile_33 : decode b_MD_compile 33 = .ok (.iload_n 2, 1) := by decide +kernel
theorem d_MD_compile_34 : decode b_MD_compile 34 = .ok (.isub, 1) := by decide +kernel
theorem d_MD_compile_35 : decode b_MD_compile 35 = .ok (.ireturn, 1) := by decide +kernel
theorem d_MD_compile_36 : decode b_MD_compile 36 = .ok (.aload_n 0, 1) := by decide +kernel
theorem d_MD_compile_37 : decode b_MD_compile 37 = .ok (.getfield 19, 3) := by decide +kernel
theorem d_MD_compile_40 : decode b_MD_compile 40 = .ok (.iload_n 1, 1) := by decide +kernel
theorem d_MD_compile_41 : decode b_MD_compile 41 = .ok (.aload_n 0, 1) := by decide +kernel
theorem d_MD_compile_42 : decode b_MD_compile 42 = .ok (.getfield 110, 3) := by decide +kernel
theorem d_MD_compile_45 : decode b_MD_compile 45 = .ok (.iastore, 1) := by decide +kernel
theorem d_MD_compile_46 : decode b_MD_compile 46 = .ok (.iconst 0, 1) := by decide +kernel
theorem d_MD_compile_47 : decode b_MD_compile 47 = .ok (.istore_n 3, 1) := by decide +kernel
theorem d_MD_compile_48 : decode b_MD_compile 48 = .ok (.iload_n 3, 1) := by decide +kernel
theorem d_MD_compile_49 : decode b_MD_compile 49 = .ok (.aload_n 0, 1) := by decide +kernel
theorem d_MD_compile_50 : decode b_MD_compile 50 = .ok (.getfield 110, 3) := by decide +kernel
theorem d_MD_compile_53 : decode b_MD_compile 53 = .ok (.if_icmp .ge 60, 3) := by decide +kernel
theorem d_MD_compile_56 : decode b_MD_compile 56 = .ok (.aload_n 0, 1) := by decide +kernel
theorem d_MD_compile_57 : decode b_MD_compile 57 = .ok (.getfield 22, 3) := by decide +kernel
theorem d_MD_compile_60 : decode b_MD_compile 60 = .ok (.bipush 12, 2) := by decide +kernel
theorem d_MD_compile_62 : decode b_MD_compile 62 = .ok (.iload_n 1, 1) := by decide +kernel
theorem d_MD_compile_63 : decode b_MD_compile 63 = .ok (.imul, 1) := by decide +kernel
theorem d_MD_compile_64 : decode b_MD_compile 64 = .ok (.iload_n 3, 1) := by decide +kernel
theorem d_MD_compile_65 : decode b_MD_compile 65 = .ok (.iadd, 1) := by decide +kernel
theorem d_MD_compile_66 : decode b_MD_compile 66 = .ok (.aload_n 0, 1) := by decide +kernel
theorem d_MD_compile_67 : decode b_MD_compile 67 = .ok (.getfield 43, 3) := by decide +kernel
theorem d_MD_compile_70 : decode b_MD_compile 70 = .ok (.iload_n 3, 1) := by decide +kernel
theorem d_MD_compile_71 : decode b_MD_compile 71 = .ok (.iaload, 1) := by decide +kernel
theorem d_MD_compile_72 : decode b_MD_compile 72 = .ok (.iastore, 1) := by decide +kernel
theorem d_MD_compile_73 : decode b_MD_compile 73 = .ok (.aload_n 0, 1) := by decide +kernel
theorem d_MD_compile_74 : decode b_MD_compile 74 = .ok (.getfield 25, 3) := by decide +kernel
theorem d_MD_compile_77 : decode b_MD_compile 77 = .ok (.bipush 12, 2) := by decide +kernel
theorem d_MD_compile_79 : decode b_MD_compile 79 = .ok (.iload_n 1, 1) := by decide +kernel
theorem d_MD_compile_80 : decode b_MD_compile 80 = .ok (.imul, 1) := by decide +kernel
theorem d_MD_compile_81 : decode b_MD_compile 81 = .ok (.iload_n 3, 1) := by decide +kernel
theorem d_MD_compile_82 : decode b_MD_compile 82 = .ok (.iadd, 1) := by decide +kernel
theorem d_MD_compile_83 : decode b_MD_compile 83 = .ok (.aload_n 0, 1) := by decide +kernel
theorem d_MD_compile_84 : decode b_MD_compile 84 = .ok (.getfield 46, 3) := by decide +kernel
theorem d_MD_compile_87 : decode b_MD_compile 87 = .ok (.iload_n 3, 1) := by decide +kernel
theorem d_MD_compile_88 : decode b_MD_compile 88 = .ok (.iaload, 1) := by decide +kernel
theorem d_MD_compile_89 : decode b_MD_compile 89 = .ok (.iastore, 1) := by decide +kernel
theorem d_MD_compile_90 : decode b_MD_compile 90 = .ok (.aload_n 0, 1) := by decide +kernel
theorem d_MD_compile_91 : decode b_MD_compile 91 = .ok (.getfield 28, 3) := by decide +kernel
theorem d_MD_compile_94 : decode b_MD_compile 94 = .ok (.bipush 12, 2) := by decide +kernel
theorem d_MD_compile_96 : decode b_MD_compile 96 = .ok (.iload_n 1, 1) := by decide +kernel
theorem d_MD_compile_97 : decode b_MD_compile 97 = .ok (.imul, 1) := by decide +kernel
theorem d_MD_compile_98 : decode b_MD_compile 98 = .ok (.iload_n 3, 1) := by decide +kernel
theorem d_MD_compile_99 : decode b_MD_compile 99 = .ok (.iadd, 1) := by decide +kernel
theorem d_MD_compile_100 : decode b_MD_compile 100 = .ok (.aload_n 0, 1) := by decide +kernel
theorem d_MD_compile_101 : decode b_MD_compile 101 = .ok (.getfield 49, 3) := by decide +kernel
theorem d_MD_compile_104 : decode b_MD_compile 104 = .ok (.iload_n 3, 1) := by decide +kernel
theorem d_MD_compile_105 : decode b_MD_compile 105 = .ok (.iaload, 1) := by decide +kernel
theorem d_MD_compile_106 : decode b_MD_compile 106 = .ok (.iastore, 1) := by decide +kernel
theorem d_MD_compile_107 : decode b_MD_compile 107 = .ok (.iinc 3 1, 3) := by decide +kernel
theorem d_MD_compile_110 : decode b_MD_compile 110 = .ok (.goto (-62), 3) := by decide +kernel
theorem d_MD_compile_113 : decode b_MD_compile 113 = .ok (.iconst 0, 1) := by decide +kernel
theorem d_MD_compile_114 : decode b_MD_compile 114 = .ok (.istore_n 3, 1) := by decide +kernel
theorem d_MD_compile_115 : decode b_MD_compile 115 = .ok (.iload_n 3, 1) := by decide +kernel
theorem d_MD_compile_116 : decode b_MD_compile 116 = .ok (.sipush 1461, 3) := by decide +kernel
theorem d_MD_compile_119 : decode b_MD_compile 119 = .ok (.if_icmp .ge 68, 3) := by decide +kernel
theorem d_MD_compile_122 : decode b_MD_compile 122 = .ok (.iconst 0, 1) := by decide +kernel
theorem d_MD_compile_123 : decode b_MD_compile 123 = .ok (.istore 4, 2) := by decide +kernel
theorem d_MD_compile_125 : decode b_MD_compile 125 = .ok (.iconst 0, 1) := by decide +kernel
theorem d_MD_compile_126 : decode b_MD_compile 126 = .ok (.istore 5, 2) := by decide +kernel
theorem d_MD_compile_128 : decode b_MD_compile 128 = .ok (.iload 5, 2) := by decide +kernel
theorem d_MD_compile_130 : decode b_MD_compile 130 = .ok (.aload_n 0, 1) := by decide +kernel
theorem d_MD_compile_131 : decode b_MD_compile 131 = .ok (.getfield 110, 3) := by decide +kernel
theorem d_MD_compile_134 : decode b_MD_compile 134 = .ok (.if_icmp .ge 33, 3) := by decide +kernel
theorem d_MD_compile_137 : decode b_MD_compile 137 = .ok (.aload_n 0, 1) := by decide +kernel
theorem d_MD_compile_138 : decode b_MD_compile 138 = .ok (.iload 5, 2) := by decide +kernel
theorem d_MD_compile_140 : decode b_MD_compile 140 = .ok (.iload_n 3, 1) := by decide +kernel
theorem d_MD_compile_141 : decode b_MD_compile 141 = .ok (.invokevirtual 167, 3) := by decide +kernel
theorem d_MD_compile_144 : decode b_MD_compile 144 = .ok (.ifCond .eq 13, 3) := by decide +kernel
theorem d_MD_compile_147 : decode b_MD_compile 147 = .ok (.iload 4, 2) := by decide +kernel
theorem d_MD_compile_149 : decode b_MD_compile 149 = .ok (.iconst 1, 1) := by decide +kernel
theorem d_MD_compile_150 : decode b_MD_compile 150 = .ok (.iload 5, 2) := by decide +kernel
theorem d_MD_compile_152 : decode b_MD_compile 152 = .ok (.ishl, 1) := by decide +kernel
theorem d_MD_compile_153 : decode b_MD_compile 153 = .ok (.ior, 1) := by decide +kernel
theorem d_MD_compile_154 : decode b_MD_compile 154 = .ok (.goto 5, 3) := by decide +kernel
theorem d_MD_compile_157 : decode b_MD_compile 157 = .ok (.iload 4, 2) := by decide +kernel
theorem d_MD_compile_159 : decode b_MD_compile 159 = .ok (.istore 4, 2) := by decide +kernel
theorem d_MD_compile_161 : decode b_MD_compile 161 = .ok (.iinc 5 1, 3) := by decide +kernel
theorem d_MD_compile_164 : decode b_MD_compile 164 = .ok (.goto (-36), 3) := by decide +kernel
theorem d_MD_compile_167 : decode b_MD_compile 167 = .ok (.aload_n 0, 1) := by decide +kernel
theorem d_MD_compile_168 : decode b_MD_compile 168 = .ok (.getfield 31, 3) := by decide +kernel
theorem d_MD_compile_171 : decode b_MD_compile 171 = .ok (.sipush 1461, 3) := by decide +kernel
theorem d_MD_compile_174 : decode b_MD_compile 174 = .ok (.iload_n 1, 1) := by decide +kernel
theorem d_MD_compile_175 : decode b_MD_compile 175 = .ok (.imul, 1) := by decide +kernel
theorem d_MD_compile_176 : decode b_MD_compile 176 = .ok (.iload_n 3, 1) := by decide +kernel
theorem d_MD_compile_177 : decode b_MD_compile 177 = .ok (.iadd, 1) := by decide +kernel
theorem d_MD_compile_178 : decode b_MD_compile 178 = .ok (.iload 4, 2) := by decide +kernel
theorem d_MD_compile_180 : decode b_MD_compile 180 = .ok (.iastore, 1) := by decide +kernel
theorem d_MD_compile_181 : decode b_MD_compile 181 = .ok (.iinc 3 1, 3) := by decide +kernel
theorem d_MD_compile_184 : decode b_MD_compile 184 = .ok (.goto (-69), 3) := by decide +kernel
theorem d_MD_compile_187 : decode b_MD_compile 187 = .ok (.aload_n 0, 1) := by decide +kernel
theorem d_MD_compile_188 : decode b_MD_compile 188 = .ok (.getfield 110, 3) := by decide +kernel
theorem d_MD_compile_191 : decode b_MD_compile 191 = .ok (.ireturn, 1) := by decide +kernel
