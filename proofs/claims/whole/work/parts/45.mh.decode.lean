theorem d_MD_takeDates_0 : decode b_MD_takeDates 0 = .ok (.iload_n 3, 1) := by decide +kernel
theorem d_MD_takeDates_1 : decode b_MD_takeDates 1 = .ok (.bipush 48, 2) := by decide +kernel
theorem d_MD_takeDates_3 : decode b_MD_takeDates 3 = .ok (.isub, 1) := by decide +kernel
theorem d_MD_takeDates_4 : decode b_MD_takeDates 4 = .ok (.istore 4, 2) := by decide +kernel
theorem d_MD_takeDates_6 : decode b_MD_takeDates 6 = .ok (.iload_n 2, 1) := by decide +kernel
theorem d_MD_takeDates_7 : decode b_MD_takeDates 7 = .ok (.iconst 4, 1) := by decide +kernel
theorem d_MD_takeDates_8 : decode b_MD_takeDates 8 = .ok (.if_icmp .le 12, 3) := by decide +kernel
theorem d_MD_takeDates_11 : decode b_MD_takeDates 11 = .ok (.aload_n 0, 1) := by decide +kernel
theorem d_MD_takeDates_12 : decode b_MD_takeDates 12 = .ok (.getfield 64, 3) := by decide +kernel
theorem d_MD_takeDates_15 : decode b_MD_takeDates 15 = .ok (.iload_n 1, 1) := by decide +kernel
theorem d_MD_takeDates_16 : decode b_MD_takeDates 16 = .ok (.iaload, 1) := by decide +kernel
theorem d_MD_takeDates_17 : decode b_MD_takeDates 17 = .ok (.goto 9, 3) := by decide +kernel
theorem d_MD_takeDates_20 : decode b_MD_takeDates 20 = .ok (.aload_n 0, 1) := by decide +kernel
theorem d_MD_takeDates_21 : decode b_MD_takeDates 21 = .ok (.getfield 61, 3) := by decide +kernel
theorem d_MD_takeDates_24 : decode b_MD_takeDates 24 = .ok (.iload_n 1, 1) := by decide +kernel
theorem d_MD_takeDates_25 : decode b_MD_takeDates 25 = .ok (.iaload, 1) := by decide +kernel
theorem d_MD_takeDates_26 : decode b_MD_takeDates 26 = .ok (.istore 5, 2) := by decide +kernel
theorem d_MD_takeDates_28 : decode b_MD_takeDates 28 = .ok (.iconst 1, 1) := by decide +kernel
theorem d_MD_takeDates_29 : decode b_MD_takeDates 29 = .ok (.istore 6, 2) := by decide +kernel
theorem d_MD_takeDates_31 : decode b_MD_takeDates 31 = .ok (.iload_n 2, 1) := by decide +kernel
theorem d_MD_takeDates_32 : decode b_MD_takeDates 32 = .ok (.iconst 5, 1) := by decide +kernel
theorem d_MD_takeDates_33 : decode b_MD_takeDates 33 = .ok (.irem, 1) := by decide +kernel
theorem d_MD_takeDates_34 : decode b_MD_takeDates 34 = .ok (.tableswitch 176 0 3 #[30, 46, 84, 116], 30) := by decide +kernel
theorem d_MD_takeDates_64 : decode b_MD_takeDates 64 = .ok (.iload 4, 2) := by decide +kernel
theorem d_MD_takeDates_66 : decode b_MD_takeDates 66 = .ok (.iconst 0, 1) := by decide +kernel
theorem d_MD_takeDates_67 : decode b_MD_takeDates 67 = .ok (.iconst 1, 1) := by decide +kernel
theorem d_MD_takeDates_68 : decode b_MD_takeDates 68 = .ok (.invokestatic 124, 3) := by decide +kernel
theorem d_MD_takeDates_71 : decode b_MD_takeDates 71 = .ok (.istore 6, 2) := by decide +kernel
theorem d_MD_takeDates_73 : decode b_MD_takeDates 73 = .ok (.iload 4, 2) := by decide +kernel
theorem d_MD_takeDates_75 : decode b_MD_takeDates 75 = .ok (.istore 5, 2) := by decide +kernel
theorem d_MD_takeDates_77 : decode b_MD_takeDates 77 = .ok (.goto 146, 3) := by decide +kernel
theorem d_MD_takeDates_80 : decode b_MD_takeDates 80 = .ok (.iload 5, 2) := by decide +kernel
theorem d_MD_takeDates_82 : decode b_MD_takeDates 82 = .ok (.ifCond .ne 14, 3) := by decide +kernel
theorem d_MD_takeDates_85 : decode b_MD_takeDates 85 = .ok (.iload 4, 2) := by decide +kernel
theorem d_MD_takeDates_87 : decode b_MD_takeDates 87 = .ok (.iconst 1, 1) := by decide +kernel
theorem d_MD_takeDates_88 : decode b_MD_takeDates 88 = .ok (.bipush 9, 2) := by decide +kernel
theorem d_MD_takeDates_90 : decode b_MD_takeDates 90 = .ok (.invokestatic 124, 3) := by decide +kernel
theorem d_MD_takeDates_93 : decode b_MD_takeDates 93 = .ok (.goto 10, 3) := by decide +kernel
theorem d_MD_takeDates_96 : decode b_MD_takeDates 96 = .ok (.iload 4, 2) := by decide +kernel
theorem d_MD_takeDates_98 : decode b_MD_takeDates 98 = .ok (.iconst 0, 1) := by decide +kernel
theorem d_MD_takeDates_99 : decode b_MD_takeDates 99 = .ok (.iconst 2, 1) := by decide +kernel
theorem d_MD_takeDates_100 : decode b_MD_takeDates 100 = .ok (.invokestatic 124, 3) := by decide +kernel
theorem d_MD_takeDates_103 : decode b_MD_takeDates 103 = .ok (.istore 6, 2) := by decide +kernel
theorem d_MD_takeDates_105 : decode b_MD_takeDates 105 = .ok (.bipush 10, 2) := by decide +kernel
theorem d_MD_takeDates_107 : decode b_MD_takeDates 107 = .ok (.iload 5, 2) := by decide +kernel
theorem d_MD_takeDates_109 : decode b_MD_takeDates 109 = .ok (.imul, 1) := by decide +kernel
theorem d_MD_takeDates_110 : decode b_MD_takeDates 110 = .ok (.iload 4, 2) := by decide +kernel
theorem d_MD_takeDates_112 : decode b_MD_takeDates 112 = .ok (.iadd, 1) := by decide +kernel
theorem d_MD_takeDates_113 : decode b_MD_takeDates 113 = .ok (.istore 5, 2) := by decide +kernel
theorem d_MD_takeDates_115 : decode b_MD_takeDates 115 = .ok (.goto 108, 3) := by decide +kernel
theorem d_MD_takeDates_118 : decode b_MD_takeDates 118 = .ok (.iload 4, 2) := by decide +kernel
theorem d_MD_takeDates_120 : decode b_MD_takeDates 120 = .ok (.iconst 0, 1) := by decide +kernel
theorem d_MD_takeDates_121 : decode b_MD_takeDates 121 = .ok (.iload 5, 2) := by decide +kernel
theorem d_MD_takeDates_123 : decode b_MD_takeDates 123 = .ok (.iconst 2, 1) := by decide +kernel
theorem d_MD_takeDates_124 : decode b_MD_takeDates 124 = .ok (.if_icmp .ne 7, 3) := by decide +kernel
theorem d_MD_takeDates_127 : decode b_MD_takeDates 127 = .ok (.iconst 2, 1) := by decide +kernel
theorem d_MD_takeDates_128 : decode b_MD_takeDates 128 = .ok (.goto 4, 3) := by decide +kernel
theorem d_MD_takeDates_131 : decode b_MD_takeDates 131 = .ok (.iconst 3, 1) := by decide +kernel
theorem d_MD_takeDates_132 : decode b_MD_takeDates 132 = .ok (.invokestatic 124, 3) := by decide +kernel
theorem d_MD_takeDates_135 : decode b_MD_takeDates 135 = .ok (.istore 6, 2) := by decide +kernel
theorem d_MD_takeDates_137 : decode b_MD_takeDates 137 = .ok (.bipush 10, 2) := by decide +kernel
theorem d_MD_takeDates_139 : decode b_MD_takeDates 139 = .ok (.iload 5, 2) := by decide +kernel
theorem d_MD_takeDates_141 : decode b_MD_takeDates 141 = .ok (.imul, 1) := by decide +kernel
theorem d_MD_takeDates_142 : decode b_MD_takeDates 142 = .ok (.iload 4, 2) := by decide +kernel
theorem d_MD_takeDates_144 : decode b_MD_takeDates 144 = .ok (.iadd, 1) := by decide +kernel
theorem d_MD_takeDates_145 : decode b_MD_takeDates 145 = .ok (.istore 5, 2) := by decide +kernel
theorem d_MD_takeDates_147 : decode b_MD_takeDates 147 = .ok (.goto 76, 3) := by decide +kernel
theorem d_MD_takeDates_150 : decode b_MD_takeDates 150 = .ok (.iload 4, 2) := by decide +kernel
theorem d_MD_takeDates_152 : decode b_MD_takeDates 152 = .ok (.iconst 0, 1) := by decide +kernel
theorem d_MD_takeDates_153 : decode b_MD_takeDates 153 = .ok (.bipush 9, 2) := by decide +kernel
theorem d_MD_takeDates_155 : decode b_MD_takeDates 155 = .ok (.invokestatic 124, 3) := by decide +kernel
theorem d_MD_takeDates_158 : decode b_MD_takeDates 158 = .ok (.ifCond .eq 36, 3) := by decide +kernel
theorem d_MD_takeDates_161 : decode b_MD_takeDates 161 = .ok (.iload 5, 2) := by decide +kernel
theorem d_MD_takeDates_163 : decode b_MD_takeDates 163 = .ok (.bipush 10, 2) := by decide +kernel
theorem d_MD_takeDates_165 : decode b_MD_takeDates 165 = .ok (.irem, 1) := by decide +kernel
theorem d_MD_takeDates_166 : decode b_MD_takeDates 166 = .ok (.bipush 10, 2) := by decide +kernel
theorem d_MD_takeDates_168 : decode b_MD_takeDates 168 = .ok (.imul, 1) := by decide +kernel
theorem d_MD_takeDates_169 : decode b_MD_takeDates 169 = .ok (.iload 4, 2) := by decide +kernel
theorem d_MD_takeDates_171 : decode b_MD_takeDates 171 = .ok (.iadd, 1) := by decide +kernel
theorem d_MD_takeDates_172 : decode b_MD_takeDates 172 = .ok (.iconst 1, 1) := by decide +kernel
theorem d_MD_takeDates_173 : decode b_MD_takeDates 173 = .ok (.sipush 2000, 3) := by decide +kernel
theorem d_MD_takeDates_176 : decode b_MD_takeDates 176 = .ok (.iload 5, 2) := by decide +kernel
theorem d_MD_takeDates_178 : decode b_MD_takeDates 178 = .ok (.bipush 10, 2) := by decide +kernel
theorem d_MD_takeDates_180 : decode b_MD_takeDates 180 = .ok (.idiv, 1) := by decide +kernel
theorem d_MD_takeDates_181 : decode b_MD_takeDates 181 = .ok (.invokestatic 67, 3) := by decide +kernel
theorem d_MD_takeDates_184 : decode b_MD_takeDates 184 = .ok (.invokestatic 124, 3) := by decide +kernel
theorem d_MD_takeDates_187 : decode b_MD_takeDates 187 = .ok (.ifCond .eq 7, 3) := by decide +kernel
theorem d_MD_takeDates_190 : decode b_MD_takeDates 190 = .ok (.iconst 1, 1) := by decide +kernel
theorem d_MD_takeDates_191 : decode b_MD_takeDates 191 = .ok (.goto 4, 3) := by decide +kernel
theorem d_MD_takeDates_194 : decode b_MD_takeDates 194 = .ok (.iconst 0, 1) := by decide +kernel
theorem d_MD_takeDates_195 : decode b_MD_takeDates 195 = .ok (.istore 6, 2) := by decide +kernel
theorem d_MD_takeDates_197 : decode b_MD_takeDates 197 = .ok (.bipush 10, 2) := by decide +kernel
theorem d_MD_takeDates_199 : decode b_MD_takeDates 199 = .ok (.iload 5, 2) := by decide +kernel
theorem d_MD_takeDates_201 : decode b_MD_takeDates 201 = .ok (.imul, 1) := by decide +kernel
theorem d_MD_takeDates_202 : decode b_MD_takeDates 202 = .ok (.iload 4, 2) := by decide +kernel
theorem d_MD_takeDates_204 : decode b_MD_takeDates 204 = .ok (.iadd, 1) := by decide +kernel
theorem d_MD_takeDates_205 : decode b_MD_takeDates 205 = .ok (.istore 5, 2) := by decide +kernel
theorem d_MD_takeDates_207 : decode b_MD_takeDates 207 = .ok (.goto 16, 3) := by decide +kernel
theorem d_MD_takeDates_210 : decode b_MD_takeDates 210 = .ok (.iload_n 3, 1) := by decide +kernel
theorem d_MD_takeDates_211 : decode b_MD_takeDates 211 = .ok (.bipush 45, 2) := by decide +kernel
theorem d_MD_takeDates_213 : decode b_MD_takeDates 213 = .ok (.if_icmp .ne 7, 3) := by decide +kernel
theorem d_MD_takeDates_216 : decode b_MD_takeDates 216 = .ok (.iconst 1, 1) := by decide +kernel
theorem d_MD_takeDates_217 : decode b_MD_takeDates 217 = .ok (.goto 4, 3) := by decide +kernel
theorem d_MD_takeDates_220 : decode b_MD_takeDates 220 = .ok (.iconst 0, 1) := by decide +kernel
theorem d_MD_takeDates_221 : decode b_MD_takeDates 221 = .ok (.istore 6, 2) := by decide +kernel
theorem d_MD_takeDates_223 : decode b_MD_takeDates 223 = .ok (.iload_n 2, 1) := by decide +kernel
theorem d_MD_takeDates_224 : decode b_MD_takeDates 224 = .ok (.iconst 4, 1) := by decide +kernel
theorem d_MD_takeDates_225 : decode b_MD_takeDates 225 = .ok (.if_icmp .le 14, 3) := by decide +kernel
theorem d_MD_takeDates_228 : decode b_MD_takeDates 228 = .ok (.aload_n 0, 1) := by decide +kernel
theorem d_MD_takeDates_229 : decode b_MD_takeDates 229 = .ok (.getfield 64, 3) := by decide +kernel
theorem d_MD_takeDates_232 : decode b_MD_takeDates 232 = .ok (.iload_n 1, 1) := by decide +kernel
theorem d_MD_takeDates_233 : decode b_MD_takeDates 233 = .ok (.iload 5, 2) := by decide +kernel
theorem d_MD_takeDates_235 : decode b_MD_takeDates 235 = .ok (.iastore, 1) := by decide +kernel
theorem d_MD_takeDates_236 : decode b_MD_takeDates 236 = .ok (.goto 11, 3) := by decide +kernel
theorem d_MD_takeDates_239 : decode b_MD_takeDates 239 = .ok (.aload_n 0, 1) := by decide +kernel
theorem d_MD_takeDates_240 : decode b_MD_takeDates 240 = .ok (.getfield 61, 3) := by decide +kernel
theorem d_MD_takeDates_243 : decode b_MD_takeDates 243 = .ok (.iload_n 1, 1) := by decide +kernel
theorem d_MD_takeDates_244 : decode b_MD_takeDates 244 = .ok (.iload 5, 2) := by decide +kernel
theorem d_MD_takeDates_246 : decode b_MD_takeDates 246 = .ok (.iastore, 1) := by decide +kernel
theorem d_MD_takeDates_247 : decode b_MD_takeDates 247 = .ok (.aload_n 0, 1) := by decide +kernel
theorem d_MD_takeDates_248 : decode b_MD_takeDates 248 = .ok (.iload 6, 2) := by decide +kernel
theorem d_MD_takeDates_250 : decode b_MD_takeDates 250 = .ok (.bipush 22, 2) := by decide +kernel
theorem d_MD_takeDates_252 : decode b_MD_takeDates 252 = .ok (.iload_n 1, 1) := by decide +kernel
theorem d_MD_takeDates_253 : decode b_MD_takeDates 253 = .ok (.iload_n 2, 1) := by decide +kernel
theorem d_MD_takeDates_254 : decode b_MD_takeDates 254 = .ok (.bipush 8, 2) := by decide +kernel
theorem d_MD_takeDates_256 : decode b_MD_takeDates 256 = .ok (.invokevirtual 134, 3) := by decide +kernel
theorem d_MD_takeDates_259 : decode b_MD_takeDates 259 = .ok (.ireturn, 1) := by decide +kernel
