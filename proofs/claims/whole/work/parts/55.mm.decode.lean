theorem d_MD_readAll_0 : decode b_MD_readAll 0 = .ok (.aload_n 0, 1) := by decide +kernel
theorem d_MD_readAll_1 : decode b_MD_readAll 1 = .ok (.getfield 147, 3) := by decide +kernel
theorem d_MD_readAll_4 : decode b_MD_readAll 4 = .ok (.istore_n 1, 1) := by decide +kernel
theorem d_MD_readAll_5 : decode b_MD_readAll 5 = .ok (.aload_n 0, 1) := by decide +kernel
theorem d_MD_readAll_6 : decode b_MD_readAll 6 = .ok (.iconst 0, 1) := by decide +kernel
theorem d_MD_readAll_7 : decode b_MD_readAll 7 = .ok (.putfield 147, 3) := by decide +kernel
theorem d_MD_readAll_10 : decode b_MD_readAll 10 = .ok (.aload_n 0, 1) := by decide +kernel
theorem d_MD_readAll_11 : decode b_MD_readAll 11 = .ok (.iconst 0, 1) := by decide +kernel
theorem d_MD_readAll_12 : decode b_MD_readAll 12 = .ok (.putfield 90, 3) := by decide +kernel
theorem d_MD_readAll_15 : decode b_MD_readAll 15 = .ok (.aload_n 0, 1) := by decide +kernel
theorem d_MD_readAll_16 : decode b_MD_readAll 16 = .ok (.iconst 0, 1) := by decide +kernel
theorem d_MD_readAll_17 : decode b_MD_readAll 17 = .ok (.putfield 110, 3) := by decide +kernel
theorem d_MD_readAll_20 : decode b_MD_readAll 20 = .ok (.aload_n 0, 1) := by decide +kernel
theorem d_MD_readAll_21 : decode b_MD_readAll 21 = .ok (.iconst 0, 1) := by decide +kernel
theorem d_MD_readAll_22 : decode b_MD_readAll 22 = .ok (.putfield 93, 3) := by decide +kernel
theorem d_MD_readAll_25 : decode b_MD_readAll 25 = .ok (.aload_n 0, 1) := by decide +kernel
theorem d_MD_readAll_26 : decode b_MD_readAll 26 = .ok (.iconst 0, 1) := by decide +kernel
theorem d_MD_readAll_27 : decode b_MD_readAll 27 = .ok (.putfield 96, 3) := by decide +kernel
theorem d_MD_readAll_30 : decode b_MD_readAll 30 = .ok (.aload_n 0, 1) := by decide +kernel
theorem d_MD_readAll_31 : decode b_MD_readAll 31 = .ok (.getfield 52, 3) := by decide +kernel
theorem d_MD_readAll_34 : decode b_MD_readAll 34 = .ok (.iconst 0, 1) := by decide +kernel
theorem d_MD_readAll_35 : decode b_MD_readAll 35 = .ok (.iconst 0, 1) := by decide +kernel
theorem d_MD_readAll_36 : decode b_MD_readAll 36 = .ok (.iastore, 1) := by decide +kernel
theorem d_MD_readAll_37 : decode b_MD_readAll 37 = .ok (.aload_n 0, 1) := by decide +kernel
theorem d_MD_readAll_38 : decode b_MD_readAll 38 = .ok (.iconst 0, 1) := by decide +kernel
theorem d_MD_readAll_39 : decode b_MD_readAll 39 = .ok (.iconst 0, 1) := by decide +kernel
theorem d_MD_readAll_40 : decode b_MD_readAll 40 = .ok (.iconst 0, 1) := by decide +kernel
theorem d_MD_readAll_41 : decode b_MD_readAll 41 = .ok (.invokevirtual 106, 3) := by decide +kernel
theorem d_MD_readAll_44 : decode b_MD_readAll 44 = .ok (.iconst 0, 1) := by decide +kernel
theorem d_MD_readAll_45 : decode b_MD_readAll 45 = .ok (.istore_n 2, 1) := by decide +kernel
theorem d_MD_readAll_46 : decode b_MD_readAll 46 = .ok (.iload_n 2, 1) := by decide +kernel
theorem d_MD_readAll_47 : decode b_MD_readAll 47 = .ok (.iload_n 1, 1) := by decide +kernel
theorem d_MD_readAll_48 : decode b_MD_readAll 48 = .ok (.if_icmp .gt 117, 3) := by decide +kernel
theorem d_MD_readAll_51 : decode b_MD_readAll 51 = .ok (.iload_n 2, 1) := by decide +kernel
theorem d_MD_readAll_52 : decode b_MD_readAll 52 = .ok (.iload_n 1, 1) := by decide +kernel
theorem d_MD_readAll_53 : decode b_MD_readAll 53 = .ok (.if_icmp .ge 12, 3) := by decide +kernel
theorem d_MD_readAll_56 : decode b_MD_readAll 56 = .ok (.aload_n 0, 1) := by decide +kernel
theorem d_MD_readAll_57 : decode b_MD_readAll 57 = .ok (.getfield 7, 3) := by decide +kernel
theorem d_MD_readAll_60 : decode b_MD_readAll 60 = .ok (.iload_n 2, 1) := by decide +kernel
theorem d_MD_readAll_61 : decode b_MD_readAll 61 = .ok (.iaload, 1) := by decide +kernel
theorem d_MD_readAll_62 : decode b_MD_readAll 62 = .ok (.goto 4, 3) := by decide +kernel
theorem d_MD_readAll_65 : decode b_MD_readAll 65 = .ok (.iconst 0, 1) := by decide +kernel
theorem d_MD_readAll_66 : decode b_MD_readAll 66 = .ok (.istore_n 3, 1) := by decide +kernel
theorem d_MD_readAll_67 : decode b_MD_readAll 67 = .ok (.iconst 2, 1) := by decide +kernel
theorem d_MD_readAll_68 : decode b_MD_readAll 68 = .ok (.istore 4, 2) := by decide +kernel
theorem d_MD_readAll_70 : decode b_MD_readAll 70 = .ok (.iload 4, 2) := by decide +kernel
theorem d_MD_readAll_72 : decode b_MD_readAll 72 = .ok (.iconst 2, 1) := by decide +kernel
theorem d_MD_readAll_73 : decode b_MD_readAll 73 = .ok (.if_icmp .ne 57, 3) := by decide +kernel
theorem d_MD_readAll_76 : decode b_MD_readAll 76 = .ok (.aload_n 0, 1) := by decide +kernel
theorem d_MD_readAll_77 : decode b_MD_readAll 77 = .ok (.getfield 90, 3) := by decide +kernel
theorem d_MD_readAll_80 : decode b_MD_readAll 80 = .ok (.ifCond .le 50, 3) := by decide +kernel
theorem d_MD_readAll_83 : decode b_MD_readAll 83 = .ok (.aload_n 0, 1) := by decide +kernel
theorem d_MD_readAll_84 : decode b_MD_readAll 84 = .ok (.dup, 1) := by decide +kernel
theorem d_MD_readAll_85 : decode b_MD_readAll 85 = .ok (.getfield 90, 3) := by decide +kernel
theorem d_MD_readAll_88 : decode b_MD_readAll 88 = .ok (.iconst 1, 1) := by decide +kernel
theorem d_MD_readAll_89 : decode b_MD_readAll 89 = .ok (.isub, 1) := by decide +kernel
theorem d_MD_readAll_90 : decode b_MD_readAll 90 = .ok (.putfield 90, 3) := by decide +kernel
theorem d_MD_readAll_93 : decode b_MD_readAll 93 = .ok (.aload_n 0, 1) := by decide +kernel
theorem d_MD_readAll_94 : decode b_MD_readAll 94 = .ok (.aload_n 0, 1) := by decide +kernel
theorem d_MD_readAll_95 : decode b_MD_readAll 95 = .ok (.getfield 34, 3) := by decide +kernel
theorem d_MD_readAll_98 : decode b_MD_readAll 98 = .ok (.aload_n 0, 1) := by decide +kernel
theorem d_MD_readAll_99 : decode b_MD_readAll 99 = .ok (.getfield 90, 3) := by decide +kernel
theorem d_MD_readAll_102 : decode b_MD_readAll 102 = .ok (.iaload, 1) := by decide +kernel
theorem d_MD_readAll_103 : decode b_MD_readAll 103 = .ok (.aload_n 0, 1) := by decide +kernel
theorem d_MD_readAll_104 : decode b_MD_readAll 104 = .ok (.getfield 37, 3) := by decide +kernel
theorem d_MD_readAll_107 : decode b_MD_readAll 107 = .ok (.aload_n 0, 1) := by decide +kernel
theorem d_MD_readAll_108 : decode b_MD_readAll 108 = .ok (.getfield 90, 3) := by decide +kernel
theorem d_MD_readAll_111 : decode b_MD_readAll 111 = .ok (.iaload, 1) := by decide +kernel
theorem d_MD_readAll_112 : decode b_MD_readAll 112 = .ok (.aload_n 0, 1) := by decide +kernel
theorem d_MD_readAll_113 : decode b_MD_readAll 113 = .ok (.getfield 40, 3) := by decide +kernel
theorem d_MD_readAll_116 : decode b_MD_readAll 116 = .ok (.aload_n 0, 1) := by decide +kernel
theorem d_MD_readAll_117 : decode b_MD_readAll 117 = .ok (.getfield 90, 3) := by decide +kernel
theorem d_MD_readAll_120 : decode b_MD_readAll 120 = .ok (.iaload, 1) := by decide +kernel
theorem d_MD_readAll_121 : decode b_MD_readAll 121 = .ok (.iload_n 3, 1) := by decide +kernel
theorem d_MD_readAll_122 : decode b_MD_readAll 122 = .ok (.invokevirtual 150, 3) := by decide +kernel
theorem d_MD_readAll_125 : decode b_MD_readAll 125 = .ok (.istore 4, 2) := by decide +kernel
theorem d_MD_readAll_127 : decode b_MD_readAll 127 = .ok (.goto (-57), 3) := by decide +kernel
theorem d_MD_readAll_130 : decode b_MD_readAll 130 = .ok (.iload_n 2, 1) := by decide +kernel
theorem d_MD_readAll_131 : decode b_MD_readAll 131 = .ok (.iload_n 1, 1) := by decide +kernel
theorem d_MD_readAll_132 : decode b_MD_readAll 132 = .ok (.if_icmp .ge 12, 3) := by decide +kernel
theorem d_MD_readAll_135 : decode b_MD_readAll 135 = .ok (.iload 4, 2) := by decide +kernel
theorem d_MD_readAll_137 : decode b_MD_readAll 137 = .ok (.iconst 1, 1) := by decide +kernel
theorem d_MD_readAll_138 : decode b_MD_readAll 138 = .ok (.if_icmp .eq 21, 3) := by decide +kernel
theorem d_MD_readAll_141 : decode b_MD_readAll 141 = .ok (.goto 16, 3) := by decide +kernel
theorem d_MD_readAll_144 : decode b_MD_readAll 144 = .ok (.iload 4, 2) := by decide +kernel
theorem d_MD_readAll_146 : decode b_MD_readAll 146 = .ok (.iconst 2, 1) := by decide +kernel
theorem d_MD_readAll_147 : decode b_MD_readAll 147 = .ok (.if_icmp .ne 10, 3) := by decide +kernel
theorem d_MD_readAll_150 : decode b_MD_readAll 150 = .ok (.aload_n 0, 1) := by decide +kernel
theorem d_MD_readAll_151 : decode b_MD_readAll 151 = .ok (.getfield 90, 3) := by decide +kernel
theorem d_MD_readAll_154 : decode b_MD_readAll 154 = .ok (.ifCond .le 5, 3) := by decide +kernel
theorem d_MD_readAll_157 : decode b_MD_readAll 157 = .ok (.iload_n 2, 1) := by decide +kernel
theorem d_MD_readAll_158 : decode b_MD_readAll 158 = .ok (.ireturn, 1) := by decide +kernel
theorem d_MD_readAll_159 : decode b_MD_readAll 159 = .ok (.iinc 2 1, 3) := by decide +kernel
theorem d_MD_readAll_162 : decode b_MD_readAll 162 = .ok (.goto (-116), 3) := by decide +kernel
theorem d_MD_readAll_165 : decode b_MD_readAll 165 = .ok (.iconst (-1), 1) := by decide +kernel
theorem d_MD_readAll_166 : decode b_MD_readAll 166 = .ok (.ireturn, 1) := by decide +kernel
theorem d_MD_isAtom_0 : decode b_MD_isAtom 0 = .ok (.aload_n 0, 1) := by decide +kernel
theorem d_MD_isAtom_1 : decode b_MD_isAtom 1 = .ok (.getfield 13, 3) := by decide +kernel
theorem d_MD_isAtom_4 : decode b_MD_isAtom 4 = .ok (.iload_n 2, 1) := by decide +kernel
theorem d_MD_isAtom_5 : decode b_MD_isAtom 5 = .ok (.iaload, 1) := by decide +kernel
theorem d_MD_isAtom_6 : decode b_MD_isAtom 6 = .ok (.sipush 10000, 3) := by decide +kernel
theorem d_MD_isAtom_9 : decode b_MD_isAtom 9 = .ok (.irem, 1) := by decide +kernel
theorem d_MD_isAtom_10 : decode b_MD_isAtom 10 = .ok (.istore_n 3, 1) := by decide +kernel
theorem d_MD_isAtom_11 : decode b_MD_isAtom 11 = .ok (.aload_n 0, 1) := by decide +kernel
theorem d_MD_isAtom_12 : decode b_MD_isAtom 12 = .ok (.getfield 13, 3) := by decide +kernel
theorem d_MD_isAtom_15 : decode b_MD_isAtom 15 = .ok (.iload_n 2, 1) := by decide +kernel
theorem d_MD_isAtom_16 : decode b_MD_isAtom 16 = .ok (.iaload, 1) := by decide +kernel
theorem d_MD_isAtom_17 : decode b_MD_isAtom 17 = .ok (.sipush 10000, 3) := by decide +kernel
theorem d_MD_isAtom_20 : decode b_MD_isAtom 20 = .ok (.idiv, 1) := by decide +kernel
theorem d_MD_isAtom_21 : decode b_MD_isAtom 21 = .ok (.istore 4, 2) := by decide +kernel
theorem d_MD_isAtom_23 : decode b_MD_isAtom 23 = .ok (.iload_n 3, 1) := by decide +kernel
theorem d_MD_isAtom_24 : decode b_MD_isAtom 24 = .ok (.bipush 100, 2) := by decide +kernel
theorem d_MD_isAtom_26 : decode b_MD_isAtom 26 = .ok (.irem, 1) := by decide +kernel
theorem d_MD_isAtom_27 : decode b_MD_isAtom 27 = .ok (.istore 5, 2) := by decide +kernel
theorem d_MD_isAtom_29 : decode b_MD_isAtom 29 = .ok (.iload_n 2, 1) := by decide +kernel
theorem d_MD_isAtom_30 : decode b_MD_isAtom 30 = .ok (.invokestatic 79, 3) := by decide +kernel
theorem d_MD_isAtom_33 : decode b_MD_isAtom 33 = .ok (.istore 6, 2) := by decide +kernel
theorem d_MD_isAtom_35 : decode b_MD_isAtom 35 = .ok (.aload_n 0, 1) := by decide +kernel
theorem d_MD_isAtom_36 : decode b_MD_isAtom 36 = .ok (.getfield 58, 3) := by decide +kernel
theorem d_MD_isAtom_39 : decode b_MD_isAtom 39 = .ok (.iload_n 1, 1) := by decide +kernel
theorem d_MD_isAtom_40 : decode b_MD_isAtom 40 = .ok (.iaload, 1) := by decide +kernel
theorem d_MD_isAtom_41 : decode b_MD_isAtom 41 = .ok (.tableswitch 276 20 25 #[39, 60, 126, 193, 218, 241], 39) := by decide +kernel
theorem d_MD_isAtom_80 : decode b_MD_isAtom 80 = .ok (.aload_n 0, 1) := by decide +kernel
theorem d_MD_isAtom_81 : decode b_MD_isAtom 81 = .ok (.getfield 61, 3) := by decide +kernel
theorem d_MD_isAtom_84 : decode b_MD_isAtom 84 = .ok (.iload_n 1, 1) := by decide +kernel
theorem d_MD_isAtom_85 : decode b_MD_isAtom 85 = .ok (.iaload, 1) := by decide +kernel
theorem d_MD_isAtom_86 : decode b_MD_isAtom 86 = .ok (.iload 6, 2) := by decide +kernel
theorem d_MD_isAtom_88 : decode b_MD_isAtom 88 = .ok (.ishr, 1) := by decide +kernel
theorem d_MD_isAtom_89 : decode b_MD_isAtom 89 = .ok (.iconst 1, 1) := by decide +kernel
theorem d_MD_isAtom_90 : decode b_MD_isAtom 90 = .ok (.iand, 1) := by decide +kernel
theorem d_MD_isAtom_91 : decode b_MD_isAtom 91 = .ok (.iconst 1, 1) := by decide +kernel
theorem d_MD_isAtom_92 : decode b_MD_isAtom 92 = .ok (.if_icmp .ne 7, 3) := by decide +kernel
theorem d_MD_isAtom_95 : decode b_MD_isAtom 95 = .ok (.iconst 1, 1) := by decide +kernel
theorem d_MD_isAtom_96 : decode b_MD_isAtom 96 = .ok (.goto 4, 3) := by decide +kernel
theorem d_MD_isAtom_99 : decode b_MD_isAtom 99 = .ok (.iconst 0, 1) := by decide +kernel
theorem d_MD_isAtom_100 : decode b_MD_isAtom 100 = .ok (.ireturn, 1) := by decide +kernel
theorem d_MD_isAtom_101 : decode b_MD_isAtom 101 = .ok (.iload 6, 2) := by decide +kernel
theorem d_MD_isAtom_103 : decode b_MD_isAtom 103 = .ok (.aload_n 0, 1) := by decide +kernel
theorem d_MD_isAtom_104 : decode b_MD_isAtom 104 = .ok (.getfield 64, 3) := by decide +kernel
theorem d_MD_isAtom_107 : decode b_MD_isAtom 107 = .ok (.iload_n 1, 1) := by decide +kernel
theorem d_MD_isAtom_108 : decode b_MD_isAtom 108 = .ok (.iaload, 1) := by decide +kernel
theorem d_MD_isAtom_109 : decode b_MD_isAtom 109 = .ok (.if_icmp .ne 56, 3) := by decide +kernel
theorem d_MD_isAtom_112 : decode b_MD_isAtom 112 = .ok (.aload_n 0, 1) := by decide +kernel
theorem d_MD_isAtom_113 : decode b_MD_isAtom 113 = .ok (.getfield 61, 3) := by decide +kernel
theorem d_MD_isAtom_116 : decode b_MD_isAtom 116 = .ok (.iload_n 1, 1) := by decide +kernel
theorem d_MD_isAtom_117 : decode b_MD_isAtom 117 = .ok (.iaload, 1) := by decide +kernel
theorem d_MD_isAtom_118 : decode b_MD_isAtom 118 = .ok (.bipush 9, 2) := by decide +kernel
theorem d_MD_isAtom_120 : decode b_MD_isAtom 120 = .ok (.if_icmp .ne 23, 3) := by decide +kernel
theorem d_MD_isAtom_123 : decode b_MD_isAtom 123 = .ok (.iload 5, 2) := by decide +kernel
theorem d_MD_isAtom_125 : decode b_MD_isAtom 125 = .ok (.bipush 7, 2) := by decide +kernel
theorem d_MD_isAtom_127 : decode b_MD_isAtom 127 = .ok (.iadd, 1) := by decide +kernel
theorem d_MD_isAtom_128 : decode b_MD_isAtom 128 = .ok (.iload 4, 2) := by decide +kernel
theorem d_MD_isAtom_130 : decode b_MD_isAtom 130 = .ok (.iload_n 3, 1) := by decide +kernel
theorem d_MD_isAtom_131 : decode b_MD_isAtom 131 = .ok (.bipush 100, 2) := by decide +kernel
theorem d_MD_isAtom_133 : decode b_MD_isAtom 133 = .ok (.idiv, 1) := by decide +kernel
theorem d_MD_isAtom_134 : decode b_MD_isAtom 134 = .ok (.invokestatic 67, 3) := by decide +kernel
theorem d_MD_isAtom_137 : decode b_MD_isAtom 137 = .ok (.if_icmp .le 28, 3) := by decide +kernel
theorem d_MD_isAtom_140 : decode b_MD_isAtom 140 = .ok (.goto 21, 3) := by decide +kernel
theorem d_MD_isAtom_143 : decode b_MD_isAtom 143 = .ok (.iload 5, 2) := by decide +kernel
theorem d_MD_isAtom_145 : decode b_MD_isAtom 145 = .ok (.iconst 1, 1) := by decide +kernel
theorem d_MD_isAtom_146 : decode b_MD_isAtom 146 = .ok (.isub, 1) := by decide +kernel
theorem d_MD_isAtom_147 : decode b_MD_isAtom 147 = .ok (.bipush 7, 2) := by decide +kernel
theorem d_MD_isAtom_149 : decode b_MD_isAtom 149 = .ok (.idiv, 1) := by decide +kernel
theorem d_MD_isAtom_150 : decode b_MD_isAtom 150 = .ok (.iconst 1, 1) := by decide +kernel
theorem d_MD_isAtom_151 : decode b_MD_isAtom 151 = .ok (.iadd, 1) := by decide +kernel
theorem d_MD_isAtom_152 : decode b_MD_isAtom 152 = .ok (.aload_n 0, 1) := by decide +kernel
theorem d_MD_isAtom_153 : decode b_MD_isAtom 153 = .ok (.getfield 61, 3) := by decide +kernel
theorem d_MD_isAtom_156 : decode b_MD_isAtom 156 = .ok (.iload_n 1, 1) := by decide +kernel
theorem d_MD_isAtom_157 : decode b_MD_isAtom 157 = .ok (.iaload, 1) := by decide +kernel
theorem d_MD_isAtom_158 : decode b_MD_isAtom 158 = .ok (.if_icmp .ne 7, 3) := by decide +kernel
theorem d_MD_isAtom_161 : decode b_MD_isAtom 161 = .ok (.iconst 1, 1) := by decide +kernel
theorem d_MD_isAtom_162 : decode b_MD_isAtom 162 = .ok (.goto 4, 3) := by decide +kernel
theorem d_MD_isAtom_165 : decode b_MD_isAtom 165 = .ok (.iconst 0, 1) := by decide +kernel
theorem d_MD_isAtom_166 : decode b_MD_isAtom 166 = .ok (.ireturn, 1) := by decide +kernel
theorem d_MD_isAtom_167 : decode b_MD_isAtom 167 = .ok (.aload_n 0, 1) := by decide +kernel
theorem d_MD_isAtom_168 : decode b_MD_isAtom 168 = .ok (.getfield 61, 3) := by decide +kernel
theorem d_MD_isAtom_171 : decode b_MD_isAtom 171 = .ok (.iload_n 1, 1) := by decide +kernel
theorem d_MD_isAtom_172 : decode b_MD_isAtom 172 = .ok (.iaload, 1) := by decide +kernel
theorem d_MD_isAtom_173 : decode b_MD_isAtom 173 = .ok (.aload_n 0, 1) := by decide +kernel
theorem d_MD_isAtom_174 : decode b_MD_isAtom 174 = .ok (.getfield 64, 3) := by decide +kernel
theorem d_MD_isAtom_177 : decode b_MD_isAtom 177 = .ok (.iload_n 1, 1) := by decide +kernel
theorem d_MD_isAtom_178 : decode b_MD_isAtom 178 = .ok (.iaload, 1) := by decide +kernel
theorem d_MD_isAtom_179 : decode b_MD_isAtom 179 = .ok (.if_icmp .gt 29, 3) := by decide +kernel
theorem d_MD_isAtom_182 : decode b_MD_isAtom 182 = .ok (.iload_n 3, 1) := by decide +kernel
theorem d_MD_isAtom_183 : decode b_MD_isAtom 183 = .ok (.aload_n 0, 1) := by decide +kernel
theorem d_MD_isAtom_184 : decode b_MD_isAtom 184 = .ok (.getfield 61, 3) := by decide +kernel
theorem d_MD_isAtom_187 : decode b_MD_isAtom 187 = .ok (.iload_n 1, 1) := by decide +kernel
theorem d_MD_isAtom_188 : decode b_MD_isAtom 188 = .ok (.iaload, 1) := by decide +kernel
theorem d_MD_isAtom_189 : decode b_MD_isAtom 189 = .ok (.if_icmp .lt 17, 3) := by decide +kernel
theorem d_MD_isAtom_192 : decode b_MD_isAtom 192 = .ok (.iload_n 3, 1) := by decide +kernel
theorem d_MD_isAtom_193 : decode b_MD_isAtom 193 = .ok (.aload_n 0, 1) := by decide +kernel
theorem d_MD_isAtom_194 : decode b_MD_isAtom 194 = .ok (.getfield 64, 3) := by decide +kernel
theorem d_MD_isAtom_197 : decode b_MD_isAtom 197 = .ok (.iload_n 1, 1) := by decide +kernel
theorem d_MD_isAtom_198 : decode b_MD_isAtom 198 = .ok (.iaload, 1) := by decide +kernel
theorem d_MD_isAtom_199 : decode b_MD_isAtom 199 = .ok (.if_icmp .gt 7, 3) := by decide +kernel
theorem d_MD_isAtom_202 : decode b_MD_isAtom 202 = .ok (.iconst 1, 1) := by decide +kernel
theorem d_MD_isAtom_203 : decode b_MD_isAtom 203 = .ok (.goto 4, 3) := by decide +kernel
theorem d_MD_isAtom_206 : decode b_MD_isAtom 206 = .ok (.iconst 0, 1) := by decide +kernel
theorem d_MD_isAtom_207 : decode b_MD_isAtom 207 = .ok (.ireturn, 1) := by decide +kernel
theorem d_MD_isAtom_208 : decode b_MD_isAtom 208 = .ok (.iload_n 3, 1) := by decide +kernel
theorem d_MD_isAtom_209 : decode b_MD_isAtom 209 = .ok (.aload_n 0, 1) := by decide +kernel
theorem d_MD_isAtom_210 : decode b_MD_isAtom 210 = .ok (.getfield 61, 3) := by decide +kernel
theorem d_MD_isAtom_213 : decode b_MD_isAtom 213 = .ok (.iload_n 1, 1) := by decide +kernel
theorem d_MD_isAtom_214 : decode b_MD_isAtom 214 = .ok (.iaload, 1) := by decide +kernel
theorem d_MD_isAtom_215 : decode b_MD_isAtom 215 = .ok (.if_icmp .ge 13, 3) := by decide +kernel
theorem d_MD_isAtom_218 : decode b_MD_isAtom 218 = .ok (.iload_n 3, 1) := by decide +kernel
theorem d_MD_isAtom_219 : decode b_MD_isAtom 219 = .ok (.aload_n 0, 1) := by decide +kernel
theorem d_MD_isAtom_220 : decode b_MD_isAtom 220 = .ok (.getfield 64, 3) := by decide +kernel
theorem d_MD_isAtom_223 : decode b_MD_isAtom 223 = .ok (.iload_n 1, 1) := by decide +kernel
theorem d_MD_isAtom_224 : decode b_MD_isAtom 224 = .ok (.iaload, 1) := by decide +kernel
theorem d_MD_isAtom_225 : decode b_MD_isAtom 225 = .ok (.if_icmp .gt 7, 3) := by decide +kernel
theorem d_MD_isAtom_228 : decode b_MD_isAtom 228 = .ok (.iconst 1, 1) := by decide +kernel
theorem d_MD_isAtom_229 : decode b_MD_isAtom 229 = .ok (.goto 4, 3) := by decide +kernel
theorem d_MD_isAtom_232 : decode b_MD_isAtom 232 = .ok (.iconst 0, 1) := by decide +kernel
theorem d_MD_isAtom_233 : decode b_MD_isAtom 233 = .ok (.ireturn, 1) := by decide +kernel
theorem d_MD_isAtom_234 : decode b_MD_isAtom 234 = .ok (.aload_n 0, 1) := by decide +kernel
theorem d_MD_isAtom_235 : decode b_MD_isAtom 235 = .ok (.iload_n 2, 1) := by decide +kernel
theorem d_MD_isAtom_236 : decode b_MD_isAtom 236 = .ok (.invokevirtual 153, 3) := by decide +kernel
theorem d_MD_isAtom_239 : decode b_MD_isAtom 239 = .ok (.bipush 100, 2) := by decide +kernel
theorem d_MD_isAtom_241 : decode b_MD_isAtom 241 = .ok (.irem, 1) := by decide +kernel
theorem d_MD_isAtom_242 : decode b_MD_isAtom 242 = .ok (.iconst 2, 1) := by decide +kernel
theorem d_MD_isAtom_243 : decode b_MD_isAtom 243 = .ok (.irem, 1) := by decide +kernel
theorem d_MD_isAtom_244 : decode b_MD_isAtom 244 = .ok (.aload_n 0, 1) := by decide +kernel
theorem d_MD_isAtom_245 : decode b_MD_isAtom 245 = .ok (.getfield 61, 3) := by decide +kernel
theorem d_MD_isAtom_248 : decode b_MD_isAtom 248 = .ok (.iload_n 1, 1) := by decide +kernel
theorem d_MD_isAtom_249 : decode b_MD_isAtom 249 = .ok (.iaload, 1) := by decide +kernel
theorem d_MD_isAtom_250 : decode b_MD_isAtom 250 = .ok (.if_icmp .ne 7, 3) := by decide +kernel
theorem d_MD_isAtom_253 : decode b_MD_isAtom 253 = .ok (.iconst 1, 1) := by decide +kernel
theorem d_MD_isAtom_254 : decode b_MD_isAtom 254 = .ok (.goto 4, 3) := by decide +kernel
theorem d_MD_isAtom_257 : decode b_MD_isAtom 257 = .ok (.iconst 0, 1) := by decide +kernel
theorem d_MD_isAtom_258 : decode b_MD_isAtom 258 = .ok (.ireturn, 1) := by decide +kernel
theorem d_MD_isAtom_259 : decode b_MD_isAtom 259 = .ok (.iload_n 2, 1) := by decide +kernel
theorem d_MD_isAtom_260 : decode b_MD_isAtom 260 = .ok (.aload_n 0, 1) := by decide +kernel
theorem d_MD_isAtom_261 : decode b_MD_isAtom 261 = .ok (.getfield 61, 3) := by decide +kernel
theorem d_MD_isAtom_264 : decode b_MD_isAtom 264 = .ok (.iload_n 1, 1) := by decide +kernel
theorem d_MD_isAtom_265 : decode b_MD_isAtom 265 = .ok (.iaload, 1) := by decide +kernel
theorem d_MD_isAtom_266 : decode b_MD_isAtom 266 = .ok (.irem, 1) := by decide +kernel
theorem d_MD_isAtom_267 : decode b_MD_isAtom 267 = .ok (.aload_n 0, 1) := by decide +kernel
theorem d_MD_isAtom_268 : decode b_MD_isAtom 268 = .ok (.getfield 64, 3) := by decide +kernel
theorem d_MD_isAtom_271 : decode b_MD_isAtom 271 = .ok (.iload_n 1, 1) := by decide +kernel
theorem d_MD_isAtom_272 : decode b_MD_isAtom 272 = .ok (.iaload, 1) := by decide +kernel
theorem d_MD_isAtom_273 : decode b_MD_isAtom 273 = .ok (.if_icmp .ne 7, 3) := by decide +kernel
theorem d_MD_isAtom_276 : decode b_MD_isAtom 276 = .ok (.iconst 1, 1) := by decide +kernel
theorem d_MD_isAtom_277 : decode b_MD_isAtom 277 = .ok (.goto 4, 3) := by decide +kernel
theorem d_MD_isAtom_280 : decode b_MD_isAtom 280 = .ok (.iconst 0, 1) := by decide +kernel
theorem d_MD_isAtom_281 : decode b_MD_isAtom 281 = .ok (.ireturn, 1) := by decide +kernel
theorem d_MD_isAtom_282 : decode b_MD_isAtom 282 = .ok (.iload_n 2, 1) := by decide +kernel
theorem d_MD_isAtom_283 : decode b_MD_isAtom 283 = .ok (.aload_n 0, 1) := by decide +kernel
theorem d_MD_isAtom_284 : decode b_MD_isAtom 284 = .ok (.getfield 16, 3) := by decide +kernel
theorem d_MD_isAtom_287 : decode b_MD_isAtom 287 = .ok (.iload 4, 2) := by decide +kernel
theorem d_MD_isAtom_289 : decode b_MD_isAtom 289 = .ok (.sipush 2000, 3) := by decide +kernel
theorem d_MD_isAtom_292 : decode b_MD_isAtom 292 = .ok (.isub, 1) := by decide +kernel
theorem d_MD_isAtom_293 : decode b_MD_isAtom 293 = .ok (.iaload, 1) := by decide +kernel
theorem d_MD_isAtom_294 : decode b_MD_isAtom 294 = .ok (.isub, 1) := by decide +kernel
theorem d_MD_isAtom_295 : decode b_MD_isAtom 295 = .ok (.aload_n 0, 1) := by decide +kernel
theorem d_MD_isAtom_296 : decode b_MD_isAtom 296 = .ok (.getfield 64, 3) := by decide +kernel
theorem d_MD_isAtom_299 : decode b_MD_isAtom 299 = .ok (.iload_n 1, 1) := by decide +kernel
theorem d_MD_isAtom_300 : decode b_MD_isAtom 300 = .ok (.iaload, 1) := by decide +kernel
theorem d_MD_isAtom_301 : decode b_MD_isAtom 301 = .ok (.aload_n 0, 1) := by decide +kernel
theorem d_MD_isAtom_302 : decode b_MD_isAtom 302 = .ok (.getfield 61, 3) := by decide +kernel
theorem d_MD_isAtom_305 : decode b_MD_isAtom 305 = .ok (.iload_n 1, 1) := by decide +kernel
theorem d_MD_isAtom_306 : decode b_MD_isAtom 306 = .ok (.iaload, 1) := by decide +kernel
theorem d_MD_isAtom_307 : decode b_MD_isAtom 307 = .ok (.imul, 1) := by decide +kernel
theorem d_MD_isAtom_308 : decode b_MD_isAtom 308 = .ok (.if_icmp .ne 7, 3) := by decide +kernel
theorem d_MD_isAtom_311 : decode b_MD_isAtom 311 = .ok (.iconst 1, 1) := by decide +kernel
theorem d_MD_isAtom_312 : decode b_MD_isAtom 312 = .ok (.goto 4, 3) := by decide +kernel
theorem d_MD_isAtom_315 : decode b_MD_isAtom 315 = .ok (.iconst 0, 1) := by decide +kernel
theorem d_MD_isAtom_316 : decode b_MD_isAtom 316 = .ok (.ireturn, 1) := by decide +kernel
theorem d_MD_isAtom_317 : decode b_MD_isAtom 317 = .ok (.iload 4, 2) := by decide +kernel
theorem d_MD_isAtom_319 : decode b_MD_isAtom 319 = .ok (.aload_n 0, 1) := by decide +kernel
theorem d_MD_isAtom_320 : decode b_MD_isAtom 320 = .ok (.getfield 61, 3) := by decide +kernel
theorem d_MD_isAtom_323 : decode b_MD_isAtom 323 = .ok (.iload_n 1, 1) := by decide +kernel
theorem d_MD_isAtom_324 : decode b_MD_isAtom 324 = .ok (.iaload, 1) := by decide +kernel
theorem d_MD_isAtom_325 : decode b_MD_isAtom 325 = .ok (.if_icmp .lt 18, 3) := by decide +kernel
theorem d_MD_isAtom_328 : decode b_MD_isAtom 328 = .ok (.iload 4, 2) := by decide +kernel
theorem d_MD_isAtom_330 : decode b_MD_isAtom 330 = .ok (.aload_n 0, 1) := by decide +kernel
theorem d_MD_isAtom_331 : decode b_MD_isAtom 331 = .ok (.getfield 64, 3) := by decide +kernel
theorem d_MD_isAtom_334 : decode b_MD_isAtom 334 = .ok (.iload_n 1, 1) := by decide +kernel
theorem d_MD_isAtom_335 : decode b_MD_isAtom 335 = .ok (.iaload, 1) := by decide +kernel
theorem d_MD_isAtom_336 : decode b_MD_isAtom 336 = .ok (.if_icmp .gt 7, 3) := by decide +kernel
theorem d_MD_isAtom_339 : decode b_MD_isAtom 339 = .ok (.iconst 1, 1) := by decide +kernel
theorem d_MD_isAtom_340 : decode b_MD_isAtom 340 = .ok (.goto 4, 3) := by decide +kernel
theorem d_MD_isAtom_343 : decode b_MD_isAtom 343 = .ok (.iconst 0, 1) := by decide +kernel
theorem d_MD_isAtom_344 : decode b_MD_isAtom 344 = .ok (.ireturn, 1) := by decide +kernel
