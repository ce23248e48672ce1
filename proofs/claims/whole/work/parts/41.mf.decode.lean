theorem d_MD_takeSpan_0 : decode b_MD_takeSpan 0 = .ok (.aload_n 0, 1) := by decide +kernel
theorem d_MD_takeSpan_1 : decode b_MD_takeSpan 1 = .ok (.getfield 110, 3) := by decide +kernel
theorem d_MD_takeSpan_4 : decode b_MD_takeSpan 4 = .ok (.iconst 1, 1) := by decide +kernel
theorem d_MD_takeSpan_5 : decode b_MD_takeSpan 5 = .ok (.isub, 1) := by decide +kernel
theorem d_MD_takeSpan_6 : decode b_MD_takeSpan 6 = .ok (.istore_n 3, 1) := by decide +kernel
theorem d_MD_takeSpan_7 : decode b_MD_takeSpan 7 = .ok (.iload_n 2, 1) := by decide +kernel
theorem d_MD_takeSpan_8 : decode b_MD_takeSpan 8 = .ok (.bipush 48, 2) := by decide +kernel
theorem d_MD_takeSpan_10 : decode b_MD_takeSpan 10 = .ok (.isub, 1) := by decide +kernel
theorem d_MD_takeSpan_11 : decode b_MD_takeSpan 11 = .ok (.istore 4, 2) := by decide +kernel
theorem d_MD_takeSpan_13 : decode b_MD_takeSpan 13 = .ok (.iload_n 1, 1) := by decide +kernel
theorem d_MD_takeSpan_14 : decode b_MD_takeSpan 14 = .ok (.iconst 4, 1) := by decide +kernel
theorem d_MD_takeSpan_15 : decode b_MD_takeSpan 15 = .ok (.if_icmp .le 12, 3) := by decide +kernel
theorem d_MD_takeSpan_18 : decode b_MD_takeSpan 18 = .ok (.aload_n 0, 1) := by decide +kernel
theorem d_MD_takeSpan_19 : decode b_MD_takeSpan 19 = .ok (.getfield 49, 3) := by decide +kernel
theorem d_MD_takeSpan_22 : decode b_MD_takeSpan 22 = .ok (.iload_n 3, 1) := by decide +kernel
theorem d_MD_takeSpan_23 : decode b_MD_takeSpan 23 = .ok (.iaload, 1) := by decide +kernel
theorem d_MD_takeSpan_24 : decode b_MD_takeSpan 24 = .ok (.goto 9, 3) := by decide +kernel
theorem d_MD_takeSpan_27 : decode b_MD_takeSpan 27 = .ok (.aload_n 0, 1) := by decide +kernel
theorem d_MD_takeSpan_28 : decode b_MD_takeSpan 28 = .ok (.getfield 46, 3) := by decide +kernel
theorem d_MD_takeSpan_31 : decode b_MD_takeSpan 31 = .ok (.iload_n 3, 1) := by decide +kernel
theorem d_MD_takeSpan_32 : decode b_MD_takeSpan 32 = .ok (.iaload, 1) := by decide +kernel
theorem d_MD_takeSpan_33 : decode b_MD_takeSpan 33 = .ok (.istore 5, 2) := by decide +kernel
theorem d_MD_takeSpan_35 : decode b_MD_takeSpan 35 = .ok (.iconst 1, 1) := by decide +kernel
theorem d_MD_takeSpan_36 : decode b_MD_takeSpan 36 = .ok (.istore 6, 2) := by decide +kernel
theorem d_MD_takeSpan_38 : decode b_MD_takeSpan 38 = .ok (.iload_n 1, 1) := by decide +kernel
theorem d_MD_takeSpan_39 : decode b_MD_takeSpan 39 = .ok (.iconst 5, 1) := by decide +kernel
theorem d_MD_takeSpan_40 : decode b_MD_takeSpan 40 = .ok (.irem, 1) := by decide +kernel
theorem d_MD_takeSpan_41 : decode b_MD_takeSpan 41 = .ok (.tableswitch 180 0 3 #[31, 50, 92, 165], 31) := by decide +kernel
theorem d_MD_takeSpan_72 : decode b_MD_takeSpan 72 = .ok (.iload 4, 2) := by decide +kernel
theorem d_MD_takeSpan_74 : decode b_MD_takeSpan 74 = .ok (.iconst 0, 1) := by decide +kernel
theorem d_MD_takeSpan_75 : decode b_MD_takeSpan 75 = .ok (.iconst 2, 1) := by decide +kernel
theorem d_MD_takeSpan_76 : decode b_MD_takeSpan 76 = .ok (.invokestatic 124, 3) := by decide +kernel
theorem d_MD_takeSpan_79 : decode b_MD_takeSpan 79 = .ok (.istore 6, 2) := by decide +kernel
theorem d_MD_takeSpan_81 : decode b_MD_takeSpan 81 = .ok (.bipush 20, 2) := by decide +kernel
theorem d_MD_takeSpan_83 : decode b_MD_takeSpan 83 = .ok (.iload 4, 2) := by decide +kernel
theorem d_MD_takeSpan_85 : decode b_MD_takeSpan 85 = .ok (.imul, 1) := by decide +kernel
theorem d_MD_takeSpan_86 : decode b_MD_takeSpan 86 = .ok (.istore 5, 2) := by decide +kernel
theorem d_MD_takeSpan_88 : decode b_MD_takeSpan 88 = .ok (.goto 146, 3) := by decide +kernel
theorem d_MD_takeSpan_91 : decode b_MD_takeSpan 91 = .ok (.iload 4, 2) := by decide +kernel
theorem d_MD_takeSpan_93 : decode b_MD_takeSpan 93 = .ok (.iconst 0, 1) := by decide +kernel
theorem d_MD_takeSpan_94 : decode b_MD_takeSpan 94 = .ok (.iload 5, 2) := by decide +kernel
theorem d_MD_takeSpan_96 : decode b_MD_takeSpan 96 = .ok (.bipush 40, 2) := by decide +kernel
theorem d_MD_takeSpan_98 : decode b_MD_takeSpan 98 = .ok (.if_icmp .ge 8, 3) := by decide +kernel
theorem d_MD_takeSpan_101 : decode b_MD_takeSpan 101 = .ok (.bipush 9, 2) := by decide +kernel
theorem d_MD_takeSpan_103 : decode b_MD_takeSpan 103 = .ok (.goto 13, 3) := by decide +kernel
theorem d_MD_takeSpan_106 : decode b_MD_takeSpan 106 = .ok (.iload_n 1, 1) := by decide +kernel
theorem d_MD_takeSpan_107 : decode b_MD_takeSpan 107 = .ok (.iconst 4, 1) := by decide +kernel
theorem d_MD_takeSpan_108 : decode b_MD_takeSpan 108 = .ok (.if_icmp .le 7, 3) := by decide +kernel
theorem d_MD_takeSpan_111 : decode b_MD_takeSpan 111 = .ok (.iconst 4, 1) := by decide +kernel
theorem d_MD_takeSpan_112 : decode b_MD_takeSpan 112 = .ok (.goto 4, 3) := by decide +kernel
theorem d_MD_takeSpan_115 : decode b_MD_takeSpan 115 = .ok (.iconst 3, 1) := by decide +kernel
theorem d_MD_takeSpan_116 : decode b_MD_takeSpan 116 = .ok (.invokestatic 124, 3) := by decide +kernel
theorem d_MD_takeSpan_119 : decode b_MD_takeSpan 119 = .ok (.istore 6, 2) := by decide +kernel
theorem d_MD_takeSpan_121 : decode b_MD_takeSpan 121 = .ok (.iload 5, 2) := by decide +kernel
theorem d_MD_takeSpan_123 : decode b_MD_takeSpan 123 = .ok (.iconst 2, 1) := by decide +kernel
theorem d_MD_takeSpan_124 : decode b_MD_takeSpan 124 = .ok (.iload 4, 2) := by decide +kernel
theorem d_MD_takeSpan_126 : decode b_MD_takeSpan 126 = .ok (.imul, 1) := by decide +kernel
theorem d_MD_takeSpan_127 : decode b_MD_takeSpan 127 = .ok (.iadd, 1) := by decide +kernel
theorem d_MD_takeSpan_128 : decode b_MD_takeSpan 128 = .ok (.istore 5, 2) := by decide +kernel
theorem d_MD_takeSpan_130 : decode b_MD_takeSpan 130 = .ok (.goto 104, 3) := by decide +kernel
theorem d_MD_takeSpan_133 : decode b_MD_takeSpan 133 = .ok (.iload 4, 2) := by decide +kernel
theorem d_MD_takeSpan_135 : decode b_MD_takeSpan 135 = .ok (.ifCond .eq 16, 3) := by decide +kernel
theorem d_MD_takeSpan_138 : decode b_MD_takeSpan 138 = .ok (.iload 4, 2) := by decide +kernel
theorem d_MD_takeSpan_140 : decode b_MD_takeSpan 140 = .ok (.iconst 3, 1) := by decide +kernel
theorem d_MD_takeSpan_141 : decode b_MD_takeSpan 141 = .ok (.if_icmp .ne 14, 3) := by decide +kernel
theorem d_MD_takeSpan_144 : decode b_MD_takeSpan 144 = .ok (.iload 5, 2) := by decide +kernel
theorem d_MD_takeSpan_146 : decode b_MD_takeSpan 146 = .ok (.bipush 48, 2) := by decide +kernel
theorem d_MD_takeSpan_148 : decode b_MD_takeSpan 148 = .ok (.if_icmp .ge 7, 3) := by decide +kernel
theorem d_MD_takeSpan_151 : decode b_MD_takeSpan 151 = .ok (.iconst 1, 1) := by decide +kernel
theorem d_MD_takeSpan_152 : decode b_MD_takeSpan 152 = .ok (.goto 4, 3) := by decide +kernel
theorem d_MD_takeSpan_155 : decode b_MD_takeSpan 155 = .ok (.iconst 0, 1) := by decide +kernel
theorem d_MD_takeSpan_156 : decode b_MD_takeSpan 156 = .ok (.istore 6, 2) := by decide +kernel
theorem d_MD_takeSpan_158 : decode b_MD_takeSpan 158 = .ok (.iload 4, 2) := by decide +kernel
theorem d_MD_takeSpan_160 : decode b_MD_takeSpan 160 = .ok (.iconst 3, 1) := by decide +kernel
theorem d_MD_takeSpan_161 : decode b_MD_takeSpan 161 = .ok (.if_icmp .ne 10, 3) := by decide +kernel
theorem d_MD_takeSpan_164 : decode b_MD_takeSpan 164 = .ok (.iload 5, 2) := by decide +kernel
theorem d_MD_takeSpan_166 : decode b_MD_takeSpan 166 = .ok (.iconst 1, 1) := by decide +kernel
theorem d_MD_takeSpan_167 : decode b_MD_takeSpan 167 = .ok (.iadd, 1) := by decide +kernel
theorem d_MD_takeSpan_168 : decode b_MD_takeSpan 168 = .ok (.goto 5, 3) := by decide +kernel
theorem d_MD_takeSpan_171 : decode b_MD_takeSpan 171 = .ok (.iload 5, 2) := by decide +kernel
theorem d_MD_takeSpan_173 : decode b_MD_takeSpan 173 = .ok (.istore 5, 2) := by decide +kernel
theorem d_MD_takeSpan_175 : decode b_MD_takeSpan 175 = .ok (.iload 6, 2) := by decide +kernel
theorem d_MD_takeSpan_177 : decode b_MD_takeSpan 177 = .ok (.ifCond .eq 23, 3) := by decide +kernel
theorem d_MD_takeSpan_180 : decode b_MD_takeSpan 180 = .ok (.iload_n 1, 1) := by decide +kernel
theorem d_MD_takeSpan_181 : decode b_MD_takeSpan 181 = .ok (.iconst 5, 1) := by decide +kernel
theorem d_MD_takeSpan_182 : decode b_MD_takeSpan 182 = .ok (.if_icmp .lt 14, 3) := by decide +kernel
theorem d_MD_takeSpan_185 : decode b_MD_takeSpan 185 = .ok (.iload 5, 2) := by decide +kernel
theorem d_MD_takeSpan_187 : decode b_MD_takeSpan 187 = .ok (.aload_n 0, 1) := by decide +kernel
theorem d_MD_takeSpan_188 : decode b_MD_takeSpan 188 = .ok (.getfield 46, 3) := by decide +kernel
theorem d_MD_takeSpan_191 : decode b_MD_takeSpan 191 = .ok (.iload_n 3, 1) := by decide +kernel
theorem d_MD_takeSpan_192 : decode b_MD_takeSpan 192 = .ok (.iaload, 1) := by decide +kernel
theorem d_MD_takeSpan_193 : decode b_MD_takeSpan 193 = .ok (.if_icmp .eq 7, 3) := by decide +kernel
theorem d_MD_takeSpan_196 : decode b_MD_takeSpan 196 = .ok (.iconst 1, 1) := by decide +kernel
theorem d_MD_takeSpan_197 : decode b_MD_takeSpan 197 = .ok (.goto 4, 3) := by decide +kernel
theorem d_MD_takeSpan_200 : decode b_MD_takeSpan 200 = .ok (.iconst 0, 1) := by decide +kernel
theorem d_MD_takeSpan_201 : decode b_MD_takeSpan 201 = .ok (.istore 6, 2) := by decide +kernel
theorem d_MD_takeSpan_203 : decode b_MD_takeSpan 203 = .ok (.goto 31, 3) := by decide +kernel
theorem d_MD_takeSpan_206 : decode b_MD_takeSpan 206 = .ok (.iload 4, 2) := by decide +kernel
theorem d_MD_takeSpan_208 : decode b_MD_takeSpan 208 = .ok (.ifCond .ne 7, 3) := by decide +kernel
theorem d_MD_takeSpan_211 : decode b_MD_takeSpan 211 = .ok (.iconst 1, 1) := by decide +kernel
theorem d_MD_takeSpan_212 : decode b_MD_takeSpan 212 = .ok (.goto 4, 3) := by decide +kernel
theorem d_MD_takeSpan_215 : decode b_MD_takeSpan 215 = .ok (.iconst 0, 1) := by decide +kernel
theorem d_MD_takeSpan_216 : decode b_MD_takeSpan 216 = .ok (.istore 6, 2) := by decide +kernel
theorem d_MD_takeSpan_218 : decode b_MD_takeSpan 218 = .ok (.goto 16, 3) := by decide +kernel
theorem d_MD_takeSpan_221 : decode b_MD_takeSpan 221 = .ok (.iload_n 2, 1) := by decide +kernel
theorem d_MD_takeSpan_222 : decode b_MD_takeSpan 222 = .ok (.bipush 45, 2) := by decide +kernel
theorem d_MD_takeSpan_224 : decode b_MD_takeSpan 224 = .ok (.if_icmp .ne 7, 3) := by decide +kernel
theorem d_MD_takeSpan_227 : decode b_MD_takeSpan 227 = .ok (.iconst 1, 1) := by decide +kernel
theorem d_MD_takeSpan_228 : decode b_MD_takeSpan 228 = .ok (.goto 4, 3) := by decide +kernel
theorem d_MD_takeSpan_231 : decode b_MD_takeSpan 231 = .ok (.iconst 0, 1) := by decide +kernel
theorem d_MD_takeSpan_232 : decode b_MD_takeSpan 232 = .ok (.istore 6, 2) := by decide +kernel
theorem d_MD_takeSpan_234 : decode b_MD_takeSpan 234 = .ok (.iload_n 1, 1) := by decide +kernel
theorem d_MD_takeSpan_235 : decode b_MD_takeSpan 235 = .ok (.iconst 4, 1) := by decide +kernel
theorem d_MD_takeSpan_236 : decode b_MD_takeSpan 236 = .ok (.if_icmp .ne 13, 3) := by decide +kernel
theorem d_MD_takeSpan_239 : decode b_MD_takeSpan 239 = .ok (.aload_n 0, 1) := by decide +kernel
theorem d_MD_takeSpan_240 : decode b_MD_takeSpan 240 = .ok (.getfield 49, 3) := by decide +kernel
theorem d_MD_takeSpan_243 : decode b_MD_takeSpan 243 = .ok (.iload_n 3, 1) := by decide +kernel
theorem d_MD_takeSpan_244 : decode b_MD_takeSpan 244 = .ok (.iconst 0, 1) := by decide +kernel
theorem d_MD_takeSpan_245 : decode b_MD_takeSpan 245 = .ok (.iastore, 1) := by decide +kernel
theorem d_MD_takeSpan_246 : decode b_MD_takeSpan 246 = .ok (.goto 27, 3) := by decide +kernel
theorem d_MD_takeSpan_249 : decode b_MD_takeSpan 249 = .ok (.iload_n 1, 1) := by decide +kernel
theorem d_MD_takeSpan_250 : decode b_MD_takeSpan 250 = .ok (.iconst 4, 1) := by decide +kernel
theorem d_MD_takeSpan_251 : decode b_MD_takeSpan 251 = .ok (.if_icmp .le 14, 3) := by decide +kernel
theorem d_MD_takeSpan_254 : decode b_MD_takeSpan 254 = .ok (.aload_n 0, 1) := by decide +kernel
theorem d_MD_takeSpan_255 : decode b_MD_takeSpan 255 = .ok (.getfield 49, 3) := by decide +kernel
theorem d_MD_takeSpan_258 : decode b_MD_takeSpan 258 = .ok (.iload_n 3, 1) := by decide +kernel
theorem d_MD_takeSpan_259 : decode b_MD_takeSpan 259 = .ok (.iload 5, 2) := by decide +kernel
theorem d_MD_takeSpan_261 : decode b_MD_takeSpan 261 = .ok (.iastore, 1) := by decide +kernel
theorem d_MD_takeSpan_262 : decode b_MD_takeSpan 262 = .ok (.goto 11, 3) := by decide +kernel
theorem d_MD_takeSpan_265 : decode b_MD_takeSpan 265 = .ok (.aload_n 0, 1) := by decide +kernel
theorem d_MD_takeSpan_266 : decode b_MD_takeSpan 266 = .ok (.getfield 46, 3) := by decide +kernel
theorem d_MD_takeSpan_269 : decode b_MD_takeSpan 269 = .ok (.iload_n 3, 1) := by decide +kernel
theorem d_MD_takeSpan_270 : decode b_MD_takeSpan 270 = .ok (.iload 5, 2) := by decide +kernel
theorem d_MD_takeSpan_272 : decode b_MD_takeSpan 272 = .ok (.iastore, 1) := by decide +kernel
theorem d_MD_takeSpan_273 : decode b_MD_takeSpan 273 = .ok (.iload_n 1, 1) := by decide +kernel
theorem d_MD_takeSpan_274 : decode b_MD_takeSpan 274 = .ok (.bipush 8, 2) := by decide +kernel
theorem d_MD_takeSpan_276 : decode b_MD_takeSpan 276 = .ok (.if_icmp .ge 12, 3) := by decide +kernel
theorem d_MD_takeSpan_279 : decode b_MD_takeSpan 279 = .ok (.aload_n 0, 1) := by decide +kernel
theorem d_MD_takeSpan_280 : decode b_MD_takeSpan 280 = .ok (.iconst 4, 1) := by decide +kernel
theorem d_MD_takeSpan_281 : decode b_MD_takeSpan 281 = .ok (.iconst 0, 1) := by decide +kernel
theorem d_MD_takeSpan_282 : decode b_MD_takeSpan 282 = .ok (.iload_n 1, 1) := by decide +kernel
theorem d_MD_takeSpan_283 : decode b_MD_takeSpan 283 = .ok (.iconst 1, 1) := by decide +kernel
theorem d_MD_takeSpan_284 : decode b_MD_takeSpan 284 = .ok (.iadd, 1) := by decide +kernel
theorem d_MD_takeSpan_285 : decode b_MD_takeSpan 285 = .ok (.invokevirtual 106, 3) := by decide +kernel
theorem d_MD_takeSpan_288 : decode b_MD_takeSpan 288 = .ok (.iload 6, 2) := by decide +kernel
theorem d_MD_takeSpan_290 : decode b_MD_takeSpan 290 = .ok (.ifCond .eq 7, 3) := by decide +kernel
theorem d_MD_takeSpan_293 : decode b_MD_takeSpan 293 = .ok (.iconst 1, 1) := by decide +kernel
theorem d_MD_takeSpan_294 : decode b_MD_takeSpan 294 = .ok (.goto 4, 3) := by decide +kernel
theorem d_MD_takeSpan_297 : decode b_MD_takeSpan 297 = .ok (.iconst 0, 1) := by decide +kernel
theorem d_MD_takeSpan_298 : decode b_MD_takeSpan 298 = .ok (.ireturn, 1) := by decide +kernel
