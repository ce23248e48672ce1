theorem d_AT_become_0 : decode b_AT_become 0 = .ok (.aload_n 0, 1) := by decide +kernel
theorem d_AT_become_1 : decode b_AT_become 1 = .ok (.iload_n 1, 1) := by decide +kernel
theorem d_AT_become_2 : decode b_AT_become 2 = .ok (.putfield 15, 3) := by decide +kernel
theorem d_AT_become_5 : decode b_AT_become 5 = .ok (.aload_n 0, 1) := by decide +kernel
theorem d_AT_become_6 : decode b_AT_become 6 = .ok (.iload_n 2, 1) := by decide +kernel
theorem d_AT_become_7 : decode b_AT_become 7 = .ok (.putfield 19, 3) := by decide +kernel
theorem d_AT_become_10 : decode b_AT_become 10 = .ok (.aload_n 0, 1) := by decide +kernel
theorem d_AT_become_11 : decode b_AT_become 11 = .ok (.iload_n 3, 1) := by decide +kernel
theorem d_AT_become_12 : decode b_AT_become 12 = .ok (.putfield 22, 3) := by decide +kernel
theorem d_AT_become_15 : decode b_AT_become 15 = .ok (.return_, 1) := by decide +kernel
theorem d_AT_collect_0 : decode b_AT_collect 0 = .ok (.aload_n 1, 1) := by decide +kernel
theorem d_AT_collect_1 : decode b_AT_collect 1 = .ok (.invokevirtual 25, 3) := by decide +kernel
theorem d_AT_collect_4 : decode b_AT_collect 4 = .ok (.iconst 0, 1) := by decide +kernel
theorem d_AT_collect_5 : decode b_AT_collect 5 = .ok (.istore_n 2, 1) := by decide +kernel
theorem d_AT_collect_6 : decode b_AT_collect 6 = .ok (.iload_n 2, 1) := by decide +kernel
theorem d_AT_collect_7 : decode b_AT_collect 7 = .ok (.sipush 1461, 3) := by decide +kernel
theorem d_AT_collect_10 : decode b_AT_collect 10 = .ok (.if_icmp .ge 22, 3) := by decide +kernel
theorem d_AT_collect_13 : decode b_AT_collect 13 = .ok (.aload_n 0, 1) := by decide +kernel
theorem d_AT_collect_14 : decode b_AT_collect 14 = .ok (.iload_n 2, 1) := by decide +kernel
theorem d_AT_collect_15 : decode b_AT_collect 15 = .ok (.invokevirtual 30, 3) := by decide +kernel
theorem d_AT_collect_18 : decode b_AT_collect 18 = .ok (.ifCond .eq 8, 3) := by decide +kernel
theorem d_AT_collect_21 : decode b_AT_collect 21 = .ok (.aload_n 1, 1) := by decide +kernel
theorem d_AT_collect_22 : decode b_AT_collect 22 = .ok (.iload_n 2, 1) := by decide +kernel
theorem d_AT_collect_23 : decode b_AT_collect 23 = .ok (.invokevirtual 34, 3) := by decide +kernel
theorem d_AT_collect_26 : decode b_AT_collect 26 = .ok (.iinc 2 1, 3) := by decide +kernel
theorem d_AT_collect_29 : decode b_AT_collect 29 = .ok (.goto (-23), 3) := by decide +kernel
theorem d_AT_collect_32 : decode b_AT_collect 32 = .ok (.return_, 1) := by decide +kernel
theorem d_AT_matches_0 : decode b_AT_matches 0 = .ok (.aload_n 0, 1) := by decide +kernel
theorem d_AT_matches_1 : decode b_AT_matches 1 = .ok (.getfield 15, 3) := by decide +kernel
theorem d_AT_matches_4 : decode b_AT_matches 4 = .ok (.tableswitch 257 67 89 #[195, 160, 257, 221, 257, 257, 257, 257, 257, 257, 257, 128, 257, 173, 257, 257, 257, 257, 257, 257, 108, 257, 244], 108) := by decide +kernel
theorem d_AT_matches_112 : decode b_AT_matches 112 = .ok (.aload_n 0, 1) := by decide +kernel
theorem d_AT_matches_113 : decode b_AT_matches 113 = .ok (.getfield 19, 3) := by decide +kernel
theorem d_AT_matches_116 : decode b_AT_matches 116 = .ok (.iload_n 1, 1) := by decide +kernel
theorem d_AT_matches_117 : decode b_AT_matches 117 = .ok (.invokestatic 38, 3) := by decide +kernel
theorem d_AT_matches_120 : decode b_AT_matches 120 = .ok (.ishr, 1) := by decide +kernel
theorem d_AT_matches_121 : decode b_AT_matches 121 = .ok (.iconst 1, 1) := by decide +kernel
theorem d_AT_matches_122 : decode b_AT_matches 122 = .ok (.iand, 1) := by decide +kernel
theorem d_AT_matches_123 : decode b_AT_matches 123 = .ok (.ifCond .eq 7, 3) := by decide +kernel
theorem d_AT_matches_126 : decode b_AT_matches 126 = .ok (.iconst 1, 1) := by decide +kernel
theorem d_AT_matches_127 : decode b_AT_matches 127 = .ok (.goto 4, 3) := by decide +kernel
theorem d_AT_matches_130 : decode b_AT_matches 130 = .ok (.iconst 0, 1) := by decide +kernel
theorem d_AT_matches_131 : decode b_AT_matches 131 = .ok (.ireturn, 1) := by decide +kernel
theorem d_AT_matches_132 : decode b_AT_matches 132 = .ok (.iload_n 1, 1) := by decide +kernel
theorem d_AT_matches_133 : decode b_AT_matches 133 = .ok (.invokestatic 38, 3) := by decide +kernel
theorem d_AT_matches_136 : decode b_AT_matches 136 = .ok (.aload_n 0, 1) := by decide +kernel
theorem d_AT_matches_137 : decode b_AT_matches 137 = .ok (.getfield 22, 3) := by decide +kernel
theorem d_AT_matches_140 : decode b_AT_matches 140 = .ok (.if_icmp .ne 22, 3) := by decide +kernel
theorem d_AT_matches_143 : decode b_AT_matches 143 = .ok (.aload_n 0, 1) := by decide +kernel
theorem d_AT_matches_144 : decode b_AT_matches 144 = .ok (.getfield 9, 3) := by decide +kernel
theorem d_AT_matches_147 : decode b_AT_matches 147 = .ok (.iload_n 1, 1) := by decide +kernel
theorem d_AT_matches_148 : decode b_AT_matches 148 = .ok (.aload_n 0, 1) := by decide +kernel
theorem d_AT_matches_149 : decode b_AT_matches 149 = .ok (.getfield 19, 3) := by decide +kernel
theorem d_AT_matches_152 : decode b_AT_matches 152 = .ok (.invokevirtual 44, 3) := by decide +kernel
theorem d_AT_matches_155 : decode b_AT_matches 155 = .ok (.ifCond .eq 7, 3) := by decide +kernel
theorem d_AT_matches_158 : decode b_AT_matches 158 = .ok (.iconst 1, 1) := by decide +kernel
theorem d_AT_matches_159 : decode b_AT_matches 159 = .ok (.goto 4, 3) := by decide +kernel
theorem d_AT_matches_162 : decode b_AT_matches 162 = .ok (.iconst 0, 1) := by decide +kernel
theorem d_AT_matches_163 : decode b_AT_matches 163 = .ok (.ireturn, 1) := by decide +kernel
theorem d_AT_matches_164 : decode b_AT_matches 164 = .ok (.aload_n 0, 1) := by decide +kernel
theorem d_AT_matches_165 : decode b_AT_matches 165 = .ok (.aload_n 0, 1) := by decide +kernel
theorem d_AT_matches_166 : decode b_AT_matches 166 = .ok (.getfield 9, 3) := by decide +kernel
theorem d_AT_matches_169 : decode b_AT_matches 169 = .ok (.iload_n 1, 1) := by decide +kernel
theorem d_AT_matches_170 : decode b_AT_matches 170 = .ok (.invokevirtual 48, 3) := by decide +kernel
theorem d_AT_matches_173 : decode b_AT_matches 173 = .ok (.invokevirtual 51, 3) := by decide +kernel
theorem d_AT_matches_176 : decode b_AT_matches 176 = .ok (.ireturn, 1) := by decide +kernel
theorem d_AT_matches_177 : decode b_AT_matches 177 = .ok (.iload_n 1, 1) := by decide +kernel
theorem d_AT_matches_178 : decode b_AT_matches 178 = .ok (.invokestatic 54, 3) := by decide +kernel
theorem d_AT_matches_181 : decode b_AT_matches 181 = .ok (.bipush 100, 2) := by decide +kernel
theorem d_AT_matches_183 : decode b_AT_matches 183 = .ok (.irem, 1) := by decide +kernel
theorem d_AT_matches_184 : decode b_AT_matches 184 = .ok (.iconst 2, 1) := by decide +kernel
theorem d_AT_matches_185 : decode b_AT_matches 185 = .ok (.irem, 1) := by decide +kernel
theorem d_AT_matches_186 : decode b_AT_matches 186 = .ok (.aload_n 0, 1) := by decide +kernel
theorem d_AT_matches_187 : decode b_AT_matches 187 = .ok (.getfield 19, 3) := by decide +kernel
theorem d_AT_matches_190 : decode b_AT_matches 190 = .ok (.if_icmp .ne 7, 3) := by decide +kernel
theorem d_AT_matches_193 : decode b_AT_matches 193 = .ok (.iconst 1, 1) := by decide +kernel
theorem d_AT_matches_194 : decode b_AT_matches 194 = .ok (.goto 4, 3) := by decide +kernel
theorem d_AT_matches_197 : decode b_AT_matches 197 = .ok (.iconst 0, 1) := by decide +kernel
theorem d_AT_matches_198 : decode b_AT_matches 198 = .ok (.ireturn, 1) := by decide +kernel
theorem d_AT_matches_199 : decode b_AT_matches 199 = .ok (.aload_n 0, 1) := by decide +kernel
theorem d_AT_matches_200 : decode b_AT_matches 200 = .ok (.getfield 19, 3) := by decide +kernel
theorem d_AT_matches_203 : decode b_AT_matches 203 = .ok (.ifCond .le 20, 3) := by decide +kernel
theorem d_AT_matches_206 : decode b_AT_matches 206 = .ok (.iload_n 1, 1) := by decide +kernel
theorem d_AT_matches_207 : decode b_AT_matches 207 = .ok (.aload_n 0, 1) := by decide +kernel
theorem d_AT_matches_208 : decode b_AT_matches 208 = .ok (.getfield 19, 3) := by decide +kernel
theorem d_AT_matches_211 : decode b_AT_matches 211 = .ok (.irem, 1) := by decide +kernel
theorem d_AT_matches_212 : decode b_AT_matches 212 = .ok (.aload_n 0, 1) := by decide +kernel
theorem d_AT_matches_213 : decode b_AT_matches 213 = .ok (.getfield 22, 3) := by decide +kernel
theorem d_AT_matches_216 : decode b_AT_matches 216 = .ok (.if_icmp .ne 7, 3) := by decide +kernel
theorem d_AT_matches_219 : decode b_AT_matches 219 = .ok (.iconst 1, 1) := by decide +kernel
theorem d_AT_matches_220 : decode b_AT_matches 220 = .ok (.goto 4, 3) := by decide +kernel
theorem d_AT_matches_223 : decode b_AT_matches 223 = .ok (.iconst 0, 1) := by decide +kernel
theorem d_AT_matches_224 : decode b_AT_matches 224 = .ok (.ireturn, 1) := by decide +kernel
theorem d_AT_matches_225 : decode b_AT_matches 225 = .ok (.iload_n 1, 1) := by decide +kernel
theorem d_AT_matches_226 : decode b_AT_matches 226 = .ok (.aload_n 0, 1) := by decide +kernel
theorem d_AT_matches_227 : decode b_AT_matches 227 = .ok (.getfield 9, 3) := by decide +kernel
theorem d_AT_matches_230 : decode b_AT_matches 230 = .ok (.iload_n 1, 1) := by decide +kernel
theorem d_AT_matches_231 : decode b_AT_matches 231 = .ok (.invokevirtual 57, 3) := by decide +kernel
theorem d_AT_matches_234 : decode b_AT_matches 234 = .ok (.isub, 1) := by decide +kernel
theorem d_AT_matches_235 : decode b_AT_matches 235 = .ok (.aload_n 0, 1) := by decide +kernel
theorem d_AT_matches_236 : decode b_AT_matches 236 = .ok (.getfield 19, 3) := by decide +kernel
theorem d_AT_matches_239 : decode b_AT_matches 239 = .ok (.if_icmp .ne 7, 3) := by decide +kernel
theorem d_AT_matches_242 : decode b_AT_matches 242 = .ok (.iconst 1, 1) := by decide +kernel
theorem d_AT_matches_243 : decode b_AT_matches 243 = .ok (.goto 4, 3) := by decide +kernel
theorem d_AT_matches_246 : decode b_AT_matches 246 = .ok (.iconst 0, 1) := by decide +kernel
theorem d_AT_matches_247 : decode b_AT_matches 247 = .ok (.ireturn, 1) := by decide +kernel
theorem d_AT_matches_248 : decode b_AT_matches 248 = .ok (.aload_n 0, 1) := by decide +kernel
theorem d_AT_matches_249 : decode b_AT_matches 249 = .ok (.sipush 2000, 3) := by decide +kernel
theorem d_AT_matches_252 : decode b_AT_matches 252 = .ok (.iload_n 1, 1) := by decide +kernel
theorem d_AT_matches_253 : decode b_AT_matches 253 = .ok (.invokestatic 60, 3) := by decide +kernel
theorem d_AT_matches_256 : decode b_AT_matches 256 = .ok (.iadd, 1) := by decide +kernel
theorem d_AT_matches_257 : decode b_AT_matches 257 = .ok (.invokevirtual 51, 3) := by decide +kernel
theorem d_AT_matches_260 : decode b_AT_matches 260 = .ok (.ireturn, 1) := by decide +kernel
theorem d_AT_matches_261 : decode b_AT_matches 261 = .ok (.iconst 0, 1) := by decide +kernel
theorem d_AT_matches_262 : decode b_AT_matches 262 = .ok (.ireturn, 1) := by decide +kernel
theorem d_AT_isBetween_0 : decode b_AT_isBetween 0 = .ok (.aload_n 0, 1) := by decide +kernel
theorem d_AT_isBetween_1 : decode b_AT_isBetween 1 = .ok (.getfield 19, 3) := by decide +kernel
theorem d_AT_isBetween_4 : decode b_AT_isBetween 4 = .ok (.aload_n 0, 1) := by decide +kernel
theorem d_AT_isBetween_5 : decode b_AT_isBetween 5 = .ok (.getfield 22, 3) := by decide +kernel
theorem d_AT_isBetween_8 : decode b_AT_isBetween 8 = .ok (.if_icmp .gt 25, 3) := by decide +kernel
theorem d_AT_isBetween_11 : decode b_AT_isBetween 11 = .ok (.aload_n 0, 1) := by decide +kernel
theorem d_AT_isBetween_12 : decode b_AT_isBetween 12 = .ok (.getfield 19, 3) := by decide +kernel
theorem d_AT_isBetween_15 : decode b_AT_isBetween 15 = .ok (.iload_n 1, 1) := by decide +kernel
theorem d_AT_isBetween_16 : decode b_AT_isBetween 16 = .ok (.if_icmp .gt 15, 3) := by decide +kernel
theorem d_AT_isBetween_19 : decode b_AT_isBetween 19 = .ok (.iload_n 1, 1) := by decide +kernel
theorem d_AT_isBetween_20 : decode b_AT_isBetween 20 = .ok (.aload_n 0, 1) := by decide +kernel
theorem d_AT_isBetween_21 : decode b_AT_isBetween 21 = .ok (.getfield 22, 3) := by decide +kernel
theorem d_AT_isBetween_24 : decode b_AT_isBetween 24 = .ok (.if_icmp .gt 7, 3) := by decide +kernel
theorem d_AT_isBetween_27 : decode b_AT_isBetween 27 = .ok (.iconst 1, 1) := by decide +kernel
theorem d_AT_isBetween_28 : decode b_AT_isBetween 28 = .ok (.goto 4, 3) := by decide +kernel
theorem d_AT_isBetween_31 : decode b_AT_isBetween 31 = .ok (.iconst 0, 1) := by decide +kernel
theorem d_AT_isBetween_32 : decode b_AT_isBetween 32 = .ok (.ireturn, 1) := by decide +kernel
theorem d_AT_isBetween_33 : decode b_AT_isBetween 33 = .ok (.aload_n 0, 1) := by decide +kernel
theorem d_AT_isBetween_34 : decode b_AT_isBetween 34 = .ok (.getfield 19, 3) := by decide +kernel
theorem d_AT_isBetween_37 : decode b_AT_isBetween 37 = .ok (.iload_n 1, 1) := by decide +kernel
theorem d_AT_isBetween_38 : decode b_AT_isBetween 38 = .ok (.if_icmp .le 11, 3) := by decide +kernel
theorem d_AT_isBetween_41 : decode b_AT_isBetween 41 = .ok (.iload_n 1, 1) := by decide +kernel
theorem d_AT_isBetween_42 : decode b_AT_isBetween 42 = .ok (.aload_n 0, 1) := by decide +kernel
theorem d_AT_isBetween_43 : decode b_AT_isBetween 43 = .ok (.getfield 22, 3) := by decide +kernel
theorem d_AT_isBetween_46 : decode b_AT_isBetween 46 = .ok (.if_icmp .gt 7, 3) := by decide +kernel
theorem d_AT_isBetween_49 : decode b_AT_isBetween 49 = .ok (.iconst 1, 1) := by decide +kernel
theorem d_AT_isBetween_50 : decode b_AT_isBetween 50 = .ok (.goto 4, 3) := by decide +kernel
theorem d_AT_isBetween_53 : decode b_AT_isBetween 53 = .ok (.iconst 0, 1) := by decide +kernel
theorem d_AT_isBetween_54 : decode b_AT_isBetween 54 = .ok (.ireturn, 1) := by decide +kernel
theorem d_PL_clear_0 : decode b_PL_clear 0 = .ok (.aload_n 0, 1) := by decide +kernel
theorem d_PL_clear_1 : decode b_PL_clear 1 = .ok (.getfield 12, 3) := by decide +kernel
theorem d_PL_clear_4 : decode b_PL_clear 4 = .ok (.invokevirtual 21, 3) := by decide +kernel
theorem d_PL_clear_7 : decode b_PL_clear 7 = .ok (.aload_n 0, 1) := by decide +kernel
theorem d_PL_clear_8 : decode b_PL_clear 8 = .ok (.getfield 18, 3) := by decide +kernel
theorem d_PL_clear_11 : decode b_PL_clear 11 = .ok (.invokevirtual 21, 3) := by decide +kernel
theorem d_PL_clear_14 : decode b_PL_clear 14 = .ok (.aload_n 0, 1) := by decide +kernel
theorem d_PL_clear_15 : decode b_PL_clear 15 = .ok (.iconst 0, 1) := by decide +kernel
theorem d_PL_clear_16 : decode b_PL_clear 16 = .ok (.putfield 24, 3) := by decide +kernel
theorem d_PL_clear_19 : decode b_PL_clear 19 = .ok (.return_, 1) := by decide +kernel
theorem d_PL_lay_0 : decode b_PL_lay 0 = .ok (.aload_n 0, 1) := by decide +kernel
theorem d_PL_lay_1 : decode b_PL_lay 1 = .ok (.dup, 1) := by decide +kernel
theorem d_PL_lay_2 : decode b_PL_lay 2 = .ok (.getfield 24, 3) := by decide +kernel
theorem d_PL_lay_5 : decode b_PL_lay 5 = .ok (.iconst 1, 1) := by decide +kernel
theorem d_PL_lay_6 : decode b_PL_lay 6 = .ok (.iadd, 1) := by decide +kernel
theorem d_PL_lay_7 : decode b_PL_lay 7 = .ok (.putfield 24, 3) := by decide +kernel
theorem d_PL_lay_10 : decode b_PL_lay 10 = .ok (.iload_n 3, 1) := by decide +kernel
theorem d_PL_lay_11 : decode b_PL_lay 11 = .ok (.iload_n 2, 1) := by decide +kernel
theorem d_PL_lay_12 : decode b_PL_lay 12 = .ok (.if_icmp .ge 7, 3) := by decide +kernel
theorem d_PL_lay_15 : decode b_PL_lay 15 = .ok (.iconst 1, 1) := by decide +kernel
theorem d_PL_lay_16 : decode b_PL_lay 16 = .ok (.goto 4, 3) := by decide +kernel
theorem d_PL_lay_19 : decode b_PL_lay 19 = .ok (.iconst 0, 1) := by decide +kernel
theorem d_PL_lay_20 : decode b_PL_lay 20 = .ok (.istore 5, 2) := by decide +kernel
theorem d_PL_lay_22 : decode b_PL_lay 22 = .ok (.iload 5, 2) := by decide +kernel
theorem d_PL_lay_24 : decode b_PL_lay 24 = .ok (.ifCond .eq 9, 3) := by decide +kernel
theorem d_PL_lay_27 : decode b_PL_lay 27 = .ok (.ldc2_w 28, 3) := by decide +kernel
theorem d_PL_lay_30 : decode b_PL_lay 30 = .ok (.goto 7, 3) := by decide +kernel
theorem d_PL_lay_33 : decode b_PL_lay 33 = .ok (.iload_n 3, 1) := by decide +kernel
theorem d_PL_lay_34 : decode b_PL_lay 34 = .ok (.invokestatic 30, 3) := by decide +kernel
theorem d_PL_lay_37 : decode b_PL_lay 37 = .ok (.iload_n 2, 1) := by decide +kernel
theorem d_PL_lay_38 : decode b_PL_lay 38 = .ok (.invokestatic 30, 3) := by decide +kernel
theorem d_PL_lay_41 : decode b_PL_lay 41 = .ok (.ldc2_w 34, 3) := by decide +kernel
theorem d_PL_lay_44 : decode b_PL_lay 44 = .ok (.lxor, 1) := by decide +kernel
theorem d_PL_lay_45 : decode b_PL_lay 45 = .ok (.land, 1) := by decide +kernel
theorem d_PL_lay_46 : decode b_PL_lay 46 = .ok (.lstore 6, 2) := by decide +kernel
theorem d_PL_lay_48 : decode b_PL_lay 48 = .ok (.iload 5, 2) := by decide +kernel
theorem d_PL_lay_50 : decode b_PL_lay 50 = .ok (.ifCond .eq 10, 3) := by decide +kernel
theorem d_PL_lay_53 : decode b_PL_lay 53 = .ok (.iload_n 3, 1) := by decide +kernel
theorem d_PL_lay_54 : decode b_PL_lay 54 = .ok (.invokestatic 30, 3) := by decide +kernel
theorem d_PL_lay_57 : decode b_PL_lay 57 = .ok (.goto 4, 3) := by decide +kernel
theorem d_PL_lay_60 : decode b_PL_lay 60 = .ok (.lconst 0, 1) := by decide +kernel
theorem d_PL_lay_61 : decode b_PL_lay 61 = .ok (.lstore 8, 2) := by decide +kernel
theorem d_PL_lay_63 : decode b_PL_lay 63 = .ok (.iconst 0, 1) := by decide +kernel
theorem d_PL_lay_64 : decode b_PL_lay 64 = .ok (.istore 10, 2) := by decide +kernel
theorem d_PL_lay_66 : decode b_PL_lay 66 = .ok (.iconst 0, 1) := by decide +kernel
theorem d_PL_lay_67 : decode b_PL_lay 67 = .ok (.istore 11, 2) := by decide +kernel
theorem d_PL_lay_69 : decode b_PL_lay 69 = .ok (.iload 11, 2) := by decide +kernel
theorem d_PL_lay_71 : decode b_PL_lay 71 = .ok (.sipush 1461, 3) := by decide +kernel
theorem d_PL_lay_74 : decode b_PL_lay 74 = .ok (.if_icmp .ge 81, 3) := by decide +kernel
theorem d_PL_lay_77 : decode b_PL_lay 77 = .ok (.aload 4, 2) := by decide +kernel
theorem d_PL_lay_79 : decode b_PL_lay 79 = .ok (.iload 11, 2) := by decide +kernel
theorem d_PL_lay_81 : decode b_PL_lay 81 = .ok (.invokevirtual 36, 3) := by decide +kernel
theorem d_PL_lay_84 : decode b_PL_lay 84 = .ok (.istore 12, 2) := by decide +kernel
theorem d_PL_lay_86 : decode b_PL_lay 86 = .ok (.iload 12, 2) := by decide +kernel
theorem d_PL_lay_88 : decode b_PL_lay 88 = .ok (.ifCond .eq 8, 3) := by decide +kernel
theorem d_PL_lay_91 : decode b_PL_lay 91 = .ok (.lload 6, 2) := by decide +kernel
theorem d_PL_lay_93 : decode b_PL_lay 93 = .ok (.goto 4, 3) := by decide +kernel
theorem d_PL_lay_96 : decode b_PL_lay 96 = .ok (.lconst 0, 1) := by decide +kernel
theorem d_PL_lay_97 : decode b_PL_lay 97 = .ok (.iload 10, 2) := by decide +kernel
theorem d_PL_lay_99 : decode b_PL_lay 99 = .ok (.ifCond .eq 8, 3) := by decide +kernel
theorem d_PL_lay_102 : decode b_PL_lay 102 = .ok (.lload 8, 2) := by decide +kernel
theorem d_PL_lay_104 : decode b_PL_lay 104 = .ok (.goto 4, 3) := by decide +kernel
theorem d_PL_lay_107 : decode b_PL_lay 107 = .ok (.lconst 0, 1) := by decide +kernel
theorem d_PL_lay_108 : decode b_PL_lay 108 = .ok (.lor, 1) := by decide +kernel
theorem d_PL_lay_109 : decode b_PL_lay 109 = .ok (.lstore 13, 2) := by decide +kernel
theorem d_PL_lay_111 : decode b_PL_lay 111 = .ok (.lload 13, 2) := by decide +kernel
theorem d_PL_lay_113 : decode b_PL_lay 113 = .ok (.lconst 0, 1) := by decide +kernel
theorem d_PL_lay_114 : decode b_PL_lay 114 = .ok (.lcmp, 1) := by decide +kernel
theorem d_PL_lay_115 : decode b_PL_lay 115 = .ok (.ifCond .eq 30, 3) := by decide +kernel
theorem d_PL_lay_118 : decode b_PL_lay 118 = .ok (.aload_n 0, 1) := by decide +kernel
theorem d_PL_lay_119 : decode b_PL_lay 119 = .ok (.getfield 12, 3) := by decide +kernel
theorem d_PL_lay_122 : decode b_PL_lay 122 = .ok (.iload 11, 2) := by decide +kernel
theorem d_PL_lay_124 : decode b_PL_lay 124 = .ok (.lload 13, 2) := by decide +kernel
theorem d_PL_lay_126 : decode b_PL_lay 126 = .ok (.iload_n 1, 1) := by decide +kernel
theorem d_PL_lay_127 : decode b_PL_lay 127 = .ok (.invokevirtual 42, 3) := by decide +kernel
theorem d_PL_lay_130 : decode b_PL_lay 130 = .ok (.aload_n 0, 1) := by decide +kernel
theorem d_PL_lay_131 : decode b_PL_lay 131 = .ok (.getfield 18, 3) := by decide +kernel
theorem d_PL_lay_134 : decode b_PL_lay 134 = .ok (.iload 11, 2) := by decide +kernel
theorem d_PL_lay_136 : decode b_PL_lay 136 = .ok (.lload 13, 2) := by decide +kernel
theorem d_PL_lay_138 : decode b_PL_lay 138 = .ok (.aload_n 0, 1) := by decide +kernel
theorem d_PL_lay_139 : decode b_PL_lay 139 = .ok (.getfield 24, 3) := by decide +kernel
theorem d_PL_lay_142 : decode b_PL_lay 142 = .ok (.invokevirtual 42, 3) := by decide +kernel
theorem d_PL_lay_145 : decode b_PL_lay 145 = .ok (.iload 12, 2) := by decide +kernel
theorem d_PL_lay_147 : decode b_PL_lay 147 = .ok (.istore 10, 2) := by decide +kernel
theorem d_PL_lay_149 : decode b_PL_lay 149 = .ok (.iinc 11 1, 3) := by decide +kernel
theorem d_PL_lay_152 : decode b_PL_lay 152 = .ok (.goto (-83), 3) := by decide +kernel
theorem d_PL_lay_155 : decode b_PL_lay 155 = .ok (.return_, 1) := by decide +kernel
theorem d_RC_lowestCell_0 : decode b_RC_lowestCell 0 = .ok (.lload_n 0, 1) := by decide +kernel
theorem d_RC_lowestCell_1 : decode b_RC_lowestCell 1 = .ok (.lload_n 0, 1) := by decide +kernel
theorem d_RC_lowestCell_2 : decode b_RC_lowestCell 2 = .ok (.lneg, 1) := by decide +kernel
theorem d_RC_lowestCell_3 : decode b_RC_lowestCell 3 = .ok (.land, 1) := by decide +kernel
theorem d_RC_lowestCell_4 : decode b_RC_lowestCell 4 = .ok (.lconst 1, 1) := by decide +kernel
theorem d_RC_lowestCell_5 : decode b_RC_lowestCell 5 = .ok (.lsub, 1) := by decide +kernel
theorem d_RC_lowestCell_6 : decode b_RC_lowestCell 6 = .ok (.invokestatic 178, 3) := by decide +kernel
theorem d_RC_lowestCell_9 : decode b_RC_lowestCell 9 = .ok (.ireturn, 1) := by decide +kernel
