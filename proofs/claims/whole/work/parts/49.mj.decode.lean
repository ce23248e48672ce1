theorem d_MD_takeAtom_0 : decode b_MD_takeAtom 0 = .ok (.iload 4, 2) := by decide +kernel
theorem d_MD_takeAtom_2 : decode b_MD_takeAtom 2 = .ok (.bipush 48, 2) := by decide +kernel
theorem d_MD_takeAtom_4 : decode b_MD_takeAtom 4 = .ok (.isub, 1) := by decide +kernel
theorem d_MD_takeAtom_5 : decode b_MD_takeAtom 5 = .ok (.istore 5, 2) := by decide +kernel
theorem d_MD_takeAtom_7 : decode b_MD_takeAtom 7 = .ok (.iload_n 1, 1) := by decide +kernel
theorem d_MD_takeAtom_8 : decode b_MD_takeAtom 8 = .ok (.tableswitch 310 20 25 #[40, 103, 183, 192, 216, 225], 40) := by decide +kernel
theorem d_MD_takeAtom_48 : decode b_MD_takeAtom 48 = .ok (.iload 5, 2) := by decide +kernel
theorem d_MD_takeAtom_50 : decode b_MD_takeAtom 50 = .ok (.aload_n 0, 1) := by decide +kernel
theorem d_MD_takeAtom_51 : decode b_MD_takeAtom 51 = .ok (.getfield 64, 3) := by decide +kernel
theorem d_MD_takeAtom_54 : decode b_MD_takeAtom 54 = .ok (.iload_n 2, 1) := by decide +kernel
theorem d_MD_takeAtom_55 : decode b_MD_takeAtom 55 = .ok (.iaload, 1) := by decide +kernel
theorem d_MD_takeAtom_56 : decode b_MD_takeAtom 56 = .ok (.iconst 1, 1) := by decide +kernel
theorem d_MD_takeAtom_57 : decode b_MD_takeAtom 57 = .ok (.iadd, 1) := by decide +kernel
theorem d_MD_takeAtom_58 : decode b_MD_takeAtom 58 = .ok (.bipush 7, 2) := by decide +kernel
theorem d_MD_takeAtom_60 : decode b_MD_takeAtom 60 = .ok (.invokestatic 124, 3) := by decide +kernel
theorem d_MD_takeAtom_63 : decode b_MD_takeAtom 63 = .ok (.ifCond .ne 13, 3) := by decide +kernel
theorem d_MD_takeAtom_66 : decode b_MD_takeAtom 66 = .ok (.iload_n 3, 1) := by decide +kernel
theorem d_MD_takeAtom_67 : decode b_MD_takeAtom 67 = .ok (.ifCond .ne 7, 3) := by decide +kernel
theorem d_MD_takeAtom_70 : decode b_MD_takeAtom 70 = .ok (.iconst 0, 1) := by decide +kernel
theorem d_MD_takeAtom_71 : decode b_MD_takeAtom 71 = .ok (.goto 4, 3) := by decide +kernel
theorem d_MD_takeAtom_74 : decode b_MD_takeAtom 74 = .ok (.iconst 2, 1) := by decide +kernel
theorem d_MD_takeAtom_75 : decode b_MD_takeAtom 75 = .ok (.ireturn, 1) := by decide +kernel
theorem d_MD_takeAtom_76 : decode b_MD_takeAtom 76 = .ok (.aload_n 0, 1) := by decide +kernel
theorem d_MD_takeAtom_77 : decode b_MD_takeAtom 77 = .ok (.getfield 61, 3) := by decide +kernel
theorem d_MD_takeAtom_80 : decode b_MD_takeAtom 80 = .ok (.iload_n 2, 1) := by decide +kernel
theorem d_MD_takeAtom_81 : decode b_MD_takeAtom 81 = .ok (.aload_n 0, 1) := by decide +kernel
theorem d_MD_takeAtom_82 : decode b_MD_takeAtom 82 = .ok (.getfield 61, 3) := by decide +kernel
theorem d_MD_takeAtom_85 : decode b_MD_takeAtom 85 = .ok (.iload_n 2, 1) := by decide +kernel
theorem d_MD_takeAtom_86 : decode b_MD_takeAtom 86 = .ok (.iaload, 1) := by decide +kernel
theorem d_MD_takeAtom_87 : decode b_MD_takeAtom 87 = .ok (.iconst 1, 1) := by decide +kernel
theorem d_MD_takeAtom_88 : decode b_MD_takeAtom 88 = .ok (.iload 5, 2) := by decide +kernel
theorem d_MD_takeAtom_90 : decode b_MD_takeAtom 90 = .ok (.ishl, 1) := by decide +kernel
theorem d_MD_takeAtom_91 : decode b_MD_takeAtom 91 = .ok (.ior, 1) := by decide +kernel
theorem d_MD_takeAtom_92 : decode b_MD_takeAtom 92 = .ok (.iastore, 1) := by decide +kernel
theorem d_MD_takeAtom_93 : decode b_MD_takeAtom 93 = .ok (.aload_n 0, 1) := by decide +kernel
theorem d_MD_takeAtom_94 : decode b_MD_takeAtom 94 = .ok (.getfield 64, 3) := by decide +kernel
theorem d_MD_takeAtom_97 : decode b_MD_takeAtom 97 = .ok (.iload_n 2, 1) := by decide +kernel
theorem d_MD_takeAtom_98 : decode b_MD_takeAtom 98 = .ok (.iload 5, 2) := by decide +kernel
theorem d_MD_takeAtom_100 : decode b_MD_takeAtom 100 = .ok (.iastore, 1) := by decide +kernel
theorem d_MD_takeAtom_101 : decode b_MD_takeAtom 101 = .ok (.aload_n 0, 1) := by decide +kernel
theorem d_MD_takeAtom_102 : decode b_MD_takeAtom 102 = .ok (.bipush 20, 2) := by decide +kernel
theorem d_MD_takeAtom_104 : decode b_MD_takeAtom 104 = .ok (.iload_n 2, 1) := by decide +kernel
theorem d_MD_takeAtom_105 : decode b_MD_takeAtom 105 = .ok (.iconst 1, 1) := by decide +kernel
theorem d_MD_takeAtom_106 : decode b_MD_takeAtom 106 = .ok (.invokevirtual 106, 3) := by decide +kernel
theorem d_MD_takeAtom_109 : decode b_MD_takeAtom 109 = .ok (.iconst 1, 1) := by decide +kernel
theorem d_MD_takeAtom_110 : decode b_MD_takeAtom 110 = .ok (.ireturn, 1) := by decide +kernel
theorem d_MD_takeAtom_111 : decode b_MD_takeAtom 111 = .ok (.iload_n 3, 1) := by decide +kernel
theorem d_MD_takeAtom_112 : decode b_MD_takeAtom 112 = .ok (.ifCond .ne 54, 3) := by decide +kernel
theorem d_MD_takeAtom_115 : decode b_MD_takeAtom 115 = .ok (.aload_n 0, 1) := by decide +kernel
theorem d_MD_takeAtom_116 : decode b_MD_takeAtom 116 = .ok (.getfield 61, 3) := by decide +kernel
theorem d_MD_takeAtom_119 : decode b_MD_takeAtom 119 = .ok (.iload_n 2, 1) := by decide +kernel
theorem d_MD_takeAtom_120 : decode b_MD_takeAtom 120 = .ok (.iload 4, 2) := by decide +kernel
theorem d_MD_takeAtom_122 : decode b_MD_takeAtom 122 = .ok (.bipush 76, 2) := by decide +kernel
theorem d_MD_takeAtom_124 : decode b_MD_takeAtom 124 = .ok (.if_icmp .ne 8, 3) := by decide +kernel
theorem d_MD_takeAtom_127 : decode b_MD_takeAtom 127 = .ok (.bipush 9, 2) := by decide +kernel
theorem d_MD_takeAtom_129 : decode b_MD_takeAtom 129 = .ok (.goto 5, 3) := by decide +kernel
theorem d_MD_takeAtom_132 : decode b_MD_takeAtom 132 = .ok (.iload 5, 2) := by decide +kernel
theorem d_MD_takeAtom_134 : decode b_MD_takeAtom 134 = .ok (.iastore, 1) := by decide +kernel
theorem d_MD_takeAtom_135 : decode b_MD_takeAtom 135 = .ok (.aload_n 0, 1) := by decide +kernel
theorem d_MD_takeAtom_136 : decode b_MD_takeAtom 136 = .ok (.iload 4, 2) := by decide +kernel
theorem d_MD_takeAtom_138 : decode b_MD_takeAtom 138 = .ok (.bipush 76, 2) := by decide +kernel
theorem d_MD_takeAtom_140 : decode b_MD_takeAtom 140 = .ok (.if_icmp .eq 13, 3) := by decide +kernel
theorem d_MD_takeAtom_143 : decode b_MD_takeAtom 143 = .ok (.iload 5, 2) := by decide +kernel
theorem d_MD_takeAtom_145 : decode b_MD_takeAtom 145 = .ok (.iconst 1, 1) := by decide +kernel
theorem d_MD_takeAtom_146 : decode b_MD_takeAtom 146 = .ok (.iconst 5, 1) := by decide +kernel
theorem d_MD_takeAtom_147 : decode b_MD_takeAtom 147 = .ok (.invokestatic 124, 3) := by decide +kernel
theorem d_MD_takeAtom_150 : decode b_MD_takeAtom 150 = .ok (.ifCond .eq 7, 3) := by decide +kernel
theorem d_MD_takeAtom_153 : decode b_MD_takeAtom 153 = .ok (.iconst 1, 1) := by decide +kernel
theorem d_MD_takeAtom_154 : decode b_MD_takeAtom 154 = .ok (.goto 4, 3) := by decide +kernel
theorem d_MD_takeAtom_157 : decode b_MD_takeAtom 157 = .ok (.iconst 0, 1) := by decide +kernel
theorem d_MD_takeAtom_158 : decode b_MD_takeAtom 158 = .ok (.iload_n 1, 1) := by decide +kernel
theorem d_MD_takeAtom_159 : decode b_MD_takeAtom 159 = .ok (.iload_n 2, 1) := by decide +kernel
theorem d_MD_takeAtom_160 : decode b_MD_takeAtom 160 = .ok (.iload_n 3, 1) := by decide +kernel
theorem d_MD_takeAtom_161 : decode b_MD_takeAtom 161 = .ok (.iconst 1, 1) := by decide +kernel
theorem d_MD_takeAtom_162 : decode b_MD_takeAtom 162 = .ok (.invokevirtual 134, 3) := by decide +kernel
theorem d_MD_takeAtom_165 : decode b_MD_takeAtom 165 = .ok (.ireturn, 1) := by decide +kernel
theorem d_MD_takeAtom_166 : decode b_MD_takeAtom 166 = .ok (.aload_n 0, 1) := by decide +kernel
theorem d_MD_takeAtom_167 : decode b_MD_takeAtom 167 = .ok (.getfield 64, 3) := by decide +kernel
theorem d_MD_takeAtom_170 : decode b_MD_takeAtom 170 = .ok (.iload_n 2, 1) := by decide +kernel
theorem d_MD_takeAtom_171 : decode b_MD_takeAtom 171 = .ok (.iload 5, 2) := by decide +kernel
theorem d_MD_takeAtom_173 : decode b_MD_takeAtom 173 = .ok (.iastore, 1) := by decide +kernel
theorem d_MD_takeAtom_174 : decode b_MD_takeAtom 174 = .ok (.aload_n 0, 1) := by decide +kernel
theorem d_MD_takeAtom_175 : decode b_MD_takeAtom 175 = .ok (.iload 5, 2) := by decide +kernel
theorem d_MD_takeAtom_177 : decode b_MD_takeAtom 177 = .ok (.iconst 1, 1) := by decide +kernel
theorem d_MD_takeAtom_178 : decode b_MD_takeAtom 178 = .ok (.bipush 7, 2) := by decide +kernel
theorem d_MD_takeAtom_180 : decode b_MD_takeAtom 180 = .ok (.invokestatic 124, 3) := by decide +kernel
theorem d_MD_takeAtom_183 : decode b_MD_takeAtom 183 = .ok (.iload_n 1, 1) := by decide +kernel
theorem d_MD_takeAtom_184 : decode b_MD_takeAtom 184 = .ok (.iload_n 2, 1) := by decide +kernel
theorem d_MD_takeAtom_185 : decode b_MD_takeAtom 185 = .ok (.iload_n 3, 1) := by decide +kernel
theorem d_MD_takeAtom_186 : decode b_MD_takeAtom 186 = .ok (.iconst 1, 1) := by decide +kernel
theorem d_MD_takeAtom_187 : decode b_MD_takeAtom 187 = .ok (.invokevirtual 134, 3) := by decide +kernel
theorem d_MD_takeAtom_190 : decode b_MD_takeAtom 190 = .ok (.ireturn, 1) := by decide +kernel
theorem d_MD_takeAtom_191 : decode b_MD_takeAtom 191 = .ok (.aload_n 0, 1) := by decide +kernel
theorem d_MD_takeAtom_192 : decode b_MD_takeAtom 192 = .ok (.iload_n 2, 1) := by decide +kernel
theorem d_MD_takeAtom_193 : decode b_MD_takeAtom 193 = .ok (.iload_n 3, 1) := by decide +kernel
theorem d_MD_takeAtom_194 : decode b_MD_takeAtom 194 = .ok (.iload 4, 2) := by decide +kernel
theorem d_MD_takeAtom_196 : decode b_MD_takeAtom 196 = .ok (.invokevirtual 138, 3) := by decide +kernel
theorem d_MD_takeAtom_199 : decode b_MD_takeAtom 199 = .ok (.ireturn, 1) := by decide +kernel
theorem d_MD_takeAtom_200 : decode b_MD_takeAtom 200 = .ok (.aload_n 0, 1) := by decide +kernel
theorem d_MD_takeAtom_201 : decode b_MD_takeAtom 201 = .ok (.getfield 61, 3) := by decide +kernel
theorem d_MD_takeAtom_204 : decode b_MD_takeAtom 204 = .ok (.iload_n 2, 1) := by decide +kernel
theorem d_MD_takeAtom_205 : decode b_MD_takeAtom 205 = .ok (.iload 5, 2) := by decide +kernel
theorem d_MD_takeAtom_207 : decode b_MD_takeAtom 207 = .ok (.iastore, 1) := by decide +kernel
theorem d_MD_takeAtom_208 : decode b_MD_takeAtom 208 = .ok (.aload_n 0, 1) := by decide +kernel
theorem d_MD_takeAtom_209 : decode b_MD_takeAtom 209 = .ok (.iload 5, 2) := by decide +kernel
theorem d_MD_takeAtom_211 : decode b_MD_takeAtom 211 = .ok (.iconst 0, 1) := by decide +kernel
theorem d_MD_takeAtom_212 : decode b_MD_takeAtom 212 = .ok (.iconst 1, 1) := by decide +kernel
theorem d_MD_takeAtom_213 : decode b_MD_takeAtom 213 = .ok (.invokestatic 124, 3) := by decide +kernel
theorem d_MD_takeAtom_216 : decode b_MD_takeAtom 216 = .ok (.iload_n 1, 1) := by decide +kernel
theorem d_MD_takeAtom_217 : decode b_MD_takeAtom 217 = .ok (.iload_n 2, 1) := by decide +kernel
theorem d_MD_takeAtom_218 : decode b_MD_takeAtom 218 = .ok (.iload_n 3, 1) := by decide +kernel
theorem d_MD_takeAtom_219 : decode b_MD_takeAtom 219 = .ok (.iconst 0, 1) := by decide +kernel
theorem d_MD_takeAtom_220 : decode b_MD_takeAtom 220 = .ok (.invokevirtual 134, 3) := by decide +kernel
theorem d_MD_takeAtom_223 : decode b_MD_takeAtom 223 = .ok (.ireturn, 1) := by decide +kernel
theorem d_MD_takeAtom_224 : decode b_MD_takeAtom 224 = .ok (.aload_n 0, 1) := by decide +kernel
theorem d_MD_takeAtom_225 : decode b_MD_takeAtom 225 = .ok (.iload_n 2, 1) := by decide +kernel
theorem d_MD_takeAtom_226 : decode b_MD_takeAtom 226 = .ok (.iload_n 3, 1) := by decide +kernel
theorem d_MD_takeAtom_227 : decode b_MD_takeAtom 227 = .ok (.iload 5, 2) := by decide +kernel
theorem d_MD_takeAtom_229 : decode b_MD_takeAtom 229 = .ok (.invokevirtual 141, 3) := by decide +kernel
theorem d_MD_takeAtom_232 : decode b_MD_takeAtom 232 = .ok (.ireturn, 1) := by decide +kernel
theorem d_MD_takeAtom_233 : decode b_MD_takeAtom 233 = .ok (.iload_n 3, 1) := by decide +kernel
theorem d_MD_takeAtom_234 : decode b_MD_takeAtom 234 = .ok (.ifCond .ne 49, 3) := by decide +kernel
theorem d_MD_takeAtom_237 : decode b_MD_takeAtom 237 = .ok (.aload_n 0, 1) := by decide +kernel
theorem d_MD_takeAtom_238 : decode b_MD_takeAtom 238 = .ok (.getfield 64, 3) := by decide +kernel
theorem d_MD_takeAtom_241 : decode b_MD_takeAtom 241 = .ok (.iload_n 2, 1) := by decide +kernel
theorem d_MD_takeAtom_242 : decode b_MD_takeAtom 242 = .ok (.iload 4, 2) := by decide +kernel
theorem d_MD_takeAtom_244 : decode b_MD_takeAtom 244 = .ok (.bipush 45, 2) := by decide +kernel
theorem d_MD_takeAtom_246 : decode b_MD_takeAtom 246 = .ok (.if_icmp .ne 7, 3) := by decide +kernel
theorem d_MD_takeAtom_249 : decode b_MD_takeAtom 249 = .ok (.iconst (-1), 1) := by decide +kernel
theorem d_MD_takeAtom_250 : decode b_MD_takeAtom 250 = .ok (.goto 4, 3) := by decide +kernel
theorem d_MD_takeAtom_253 : decode b_MD_takeAtom 253 = .ok (.iconst 1, 1) := by decide +kernel
theorem d_MD_takeAtom_254 : decode b_MD_takeAtom 254 = .ok (.iastore, 1) := by decide +kernel
theorem d_MD_takeAtom_255 : decode b_MD_takeAtom 255 = .ok (.aload_n 0, 1) := by decide +kernel
theorem d_MD_takeAtom_256 : decode b_MD_takeAtom 256 = .ok (.iload 4, 2) := by decide +kernel
theorem d_MD_takeAtom_258 : decode b_MD_takeAtom 258 = .ok (.bipush 43, 2) := by decide +kernel
theorem d_MD_takeAtom_260 : decode b_MD_takeAtom 260 = .ok (.if_icmp .eq 10, 3) := by decide +kernel
theorem d_MD_takeAtom_263 : decode b_MD_takeAtom 263 = .ok (.iload 4, 2) := by decide +kernel
theorem d_MD_takeAtom_265 : decode b_MD_takeAtom 265 = .ok (.bipush 45, 2) := by decide +kernel
theorem d_MD_takeAtom_267 : decode b_MD_takeAtom 267 = .ok (.if_icmp .ne 7, 3) := by decide +kernel
theorem d_MD_takeAtom_270 : decode b_MD_takeAtom 270 = .ok (.iconst 1, 1) := by decide +kernel
theorem d_MD_takeAtom_271 : decode b_MD_takeAtom 271 = .ok (.goto 4, 3) := by decide +kernel
theorem d_MD_takeAtom_274 : decode b_MD_takeAtom 274 = .ok (.iconst 0, 1) := by decide +kernel
theorem d_MD_takeAtom_275 : decode b_MD_takeAtom 275 = .ok (.iload_n 1, 1) := by decide +kernel
theorem d_MD_takeAtom_276 : decode b_MD_takeAtom 276 = .ok (.iload_n 2, 1) := by decide +kernel
theorem d_MD_takeAtom_277 : decode b_MD_takeAtom 277 = .ok (.iload_n 3, 1) := by decide +kernel
theorem d_MD_takeAtom_278 : decode b_MD_takeAtom 278 = .ok (.iconst 2, 1) := by decide +kernel
theorem d_MD_takeAtom_279 : decode b_MD_takeAtom 279 = .ok (.invokevirtual 134, 3) := by decide +kernel
theorem d_MD_takeAtom_282 : decode b_MD_takeAtom 282 = .ok (.ireturn, 1) := by decide +kernel
theorem d_MD_takeAtom_283 : decode b_MD_takeAtom 283 = .ok (.aload_n 0, 1) := by decide +kernel
theorem d_MD_takeAtom_284 : decode b_MD_takeAtom 284 = .ok (.getfield 61, 3) := by decide +kernel
theorem d_MD_takeAtom_287 : decode b_MD_takeAtom 287 = .ok (.iload_n 2, 1) := by decide +kernel
theorem d_MD_takeAtom_288 : decode b_MD_takeAtom 288 = .ok (.bipush 10, 2) := by decide +kernel
theorem d_MD_takeAtom_290 : decode b_MD_takeAtom 290 = .ok (.aload_n 0, 1) := by decide +kernel
theorem d_MD_takeAtom_291 : decode b_MD_takeAtom 291 = .ok (.getfield 61, 3) := by decide +kernel
theorem d_MD_takeAtom_294 : decode b_MD_takeAtom 294 = .ok (.iload_n 2, 1) := by decide +kernel
theorem d_MD_takeAtom_295 : decode b_MD_takeAtom 295 = .ok (.iaload, 1) := by decide +kernel
theorem d_MD_takeAtom_296 : decode b_MD_takeAtom 296 = .ok (.imul, 1) := by decide +kernel
theorem d_MD_takeAtom_297 : decode b_MD_takeAtom 297 = .ok (.iload 5, 2) := by decide +kernel
theorem d_MD_takeAtom_299 : decode b_MD_takeAtom 299 = .ok (.iadd, 1) := by decide +kernel
theorem d_MD_takeAtom_300 : decode b_MD_takeAtom 300 = .ok (.iastore, 1) := by decide +kernel
theorem d_MD_takeAtom_301 : decode b_MD_takeAtom 301 = .ok (.aload_n 0, 1) := by decide +kernel
theorem d_MD_takeAtom_302 : decode b_MD_takeAtom 302 = .ok (.iload 5, 2) := by decide +kernel
theorem d_MD_takeAtom_304 : decode b_MD_takeAtom 304 = .ok (.iconst 0, 1) := by decide +kernel
theorem d_MD_takeAtom_305 : decode b_MD_takeAtom 305 = .ok (.bipush 9, 2) := by decide +kernel
theorem d_MD_takeAtom_307 : decode b_MD_takeAtom 307 = .ok (.invokestatic 124, 3) := by decide +kernel
theorem d_MD_takeAtom_310 : decode b_MD_takeAtom 310 = .ok (.iload_n 1, 1) := by decide +kernel
theorem d_MD_takeAtom_311 : decode b_MD_takeAtom 311 = .ok (.iload_n 2, 1) := by decide +kernel
theorem d_MD_takeAtom_312 : decode b_MD_takeAtom 312 = .ok (.iload_n 3, 1) := by decide +kernel
theorem d_MD_takeAtom_313 : decode b_MD_takeAtom 313 = .ok (.iconst 2, 1) := by decide +kernel
theorem d_MD_takeAtom_314 : decode b_MD_takeAtom 314 = .ok (.invokevirtual 134, 3) := by decide +kernel
theorem d_MD_takeAtom_317 : decode b_MD_takeAtom 317 = .ok (.ireturn, 1) := by decide +kernel
theorem d_MD_takeAtom_318 : decode b_MD_takeAtom 318 = .ok (.aload_n 0, 1) := by decide +kernel
theorem d_MD_takeAtom_319 : decode b_MD_takeAtom 319 = .ok (.iload_n 2, 1) := by decide +kernel
theorem d_MD_takeAtom_320 : decode b_MD_takeAtom 320 = .ok (.iload_n 3, 1) := by decide +kernel
theorem d_MD_takeAtom_321 : decode b_MD_takeAtom 321 = .ok (.iload 4, 2) := by decide +kernel
theorem d_MD_takeAtom_323 : decode b_MD_takeAtom 323 = .ok (.invokevirtual 144, 3) := by decide +kernel
theorem d_MD_takeAtom_326 : decode b_MD_takeAtom 326 = .ok (.ireturn, 1) := by decide +kernel
