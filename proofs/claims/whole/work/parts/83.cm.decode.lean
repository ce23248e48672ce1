theorem d_MD_init_0 : decode b_MD_init 0 = .ok (.aload_n 0, 1) := by decide +kernel
theorem d_MD_init_1 : decode b_MD_init 1 = .ok (.invokespecial 1, 3) := by decide +kernel
theorem d_MD_init_4 : decode b_MD_init 4 = .ok (.aload_n 0, 1) := by decide +kernel
theorem d_MD_init_5 : decode b_MD_init 5 = .ok (.bipush 100, 2) := by decide +kernel
theorem d_MD_init_7 : decode b_MD_init 7 = .ok (.newarray .int, 2) := by decide +kernel
theorem d_MD_init_9 : decode b_MD_init 9 = .ok (.putfield 7, 3) := by decide +kernel
theorem d_MD_init_12 : decode b_MD_init 12 = .ok (.aload_n 0, 1) := by decide +kernel
theorem d_MD_init_13 : decode b_MD_init 13 = .ok (.sipush 1461, 3) := by decide +kernel
theorem d_MD_init_16 : decode b_MD_init 16 = .ok (.newarray .int, 2) := by decide +kernel
theorem d_MD_init_18 : decode b_MD_init 18 = .ok (.putfield 13, 3) := by decide +kernel
theorem d_MD_init_21 : decode b_MD_init 21 = .ok (.aload_n 0, 1) := by decide +kernel
theorem d_MD_init_22 : decode b_MD_init 22 = .ok (.iconst 4, 1) := by decide +kernel
theorem d_MD_init_23 : decode b_MD_init 23 = .ok (.newarray .int, 2) := by decide +kernel
theorem d_MD_init_25 : decode b_MD_init 25 = .ok (.putfield 16, 3) := by decide +kernel
theorem d_MD_init_28 : decode b_MD_init 28 = .ok (.aload_n 0, 1) := by decide +kernel
theorem d_MD_init_29 : decode b_MD_init 29 = .ok (.iconst 3, 1) := by decide +kernel
theorem d_MD_init_30 : decode b_MD_init 30 = .ok (.newarray .int, 2) := by decide +kernel
theorem d_MD_init_32 : decode b_MD_init 32 = .ok (.putfield 19, 3) := by decide +kernel
theorem d_MD_init_35 : decode b_MD_init 35 = .ok (.aload_n 0, 1) := by decide +kernel
theorem d_MD_init_36 : decode b_MD_init 36 = .ok (.bipush 36, 2) := by decide +kernel
theorem d_MD_init_38 : decode b_MD_init 38 = .ok (.newarray .int, 2) := by decide +kernel
theorem d_MD_init_40 : decode b_MD_init 40 = .ok (.putfield 22, 3) := by decide +kernel
theorem d_MD_init_43 : decode b_MD_init 43 = .ok (.aload_n 0, 1) := by decide +kernel
theorem d_MD_init_44 : decode b_MD_init 44 = .ok (.bipush 36, 2) := by decide +kernel
theorem d_MD_init_46 : decode b_MD_init 46 = .ok (.newarray .int, 2) := by decide +kernel
theorem d_MD_init_48 : decode b_MD_init 48 = .ok (.putfield 25, 3) := by decide +kernel
theorem d_MD_init_51 : decode b_MD_init 51 = .ok (.aload_n 0, 1) := by decide +kernel
theorem d_MD_init_52 : decode b_MD_init 52 = .ok (.bipush 36, 2) := by decide +kernel
theorem d_MD_init_54 : decode b_MD_init 54 = .ok (.newarray .int, 2) := by decide +kernel
theorem d_MD_init_56 : decode b_MD_init 56 = .ok (.putfield 28, 3) := by decide +kernel
theorem d_MD_init_59 : decode b_MD_init 59 = .ok (.aload_n 0, 1) := by decide +kernel
theorem d_MD_init_60 : decode b_MD_init 60 = .ok (.sipush 4383, 3) := by decide +kernel
theorem d_MD_init_63 : decode b_MD_init 63 = .ok (.newarray .int, 2) := by decide +kernel
theorem d_MD_init_65 : decode b_MD_init 65 = .ok (.putfield 31, 3) := by decide +kernel
theorem d_MD_init_68 : decode b_MD_init 68 = .ok (.aload_n 0, 1) := by decide +kernel
theorem d_MD_init_69 : decode b_MD_init 69 = .ok (.sipush 300, 3) := by decide +kernel
theorem d_MD_init_72 : decode b_MD_init 72 = .ok (.newarray .int, 2) := by decide +kernel
theorem d_MD_init_74 : decode b_MD_init 74 = .ok (.putfield 34, 3) := by decide +kernel
theorem d_MD_init_77 : decode b_MD_init 77 = .ok (.aload_n 0, 1) := by decide +kernel
theorem d_MD_init_78 : decode b_MD_init 78 = .ok (.sipush 300, 3) := by decide +kernel
theorem d_MD_init_81 : decode b_MD_init 81 = .ok (.newarray .int, 2) := by decide +kernel
theorem d_MD_init_83 : decode b_MD_init 83 = .ok (.putfield 37, 3) := by decide +kernel
theorem d_MD_init_86 : decode b_MD_init 86 = .ok (.aload_n 0, 1) := by decide +kernel
theorem d_MD_init_87 : decode b_MD_init 87 = .ok (.sipush 300, 3) := by decide +kernel
theorem d_MD_init_90 : decode b_MD_init 90 = .ok (.newarray .int, 2) := by decide +kernel
theorem d_MD_init_92 : decode b_MD_init 92 = .ok (.putfield 40, 3) := by decide +kernel
theorem d_MD_init_95 : decode b_MD_init 95 = .ok (.aload_n 0, 1) := by decide +kernel
theorem d_MD_init_96 : decode b_MD_init 96 = .ok (.bipush 12, 2) := by decide +kernel
theorem d_MD_init_98 : decode b_MD_init 98 = .ok (.newarray .int, 2) := by decide +kernel
theorem d_MD_init_100 : decode b_MD_init 100 = .ok (.putfield 43, 3) := by decide +kernel
theorem d_MD_init_103 : decode b_MD_init 103 = .ok (.aload_n 0, 1) := by decide +kernel
theorem d_MD_init_104 : decode b_MD_init 104 = .ok (.bipush 12, 2) := by decide +kernel
theorem d_MD_init_106 : decode b_MD_init 106 = .ok (.newarray .int, 2) := by decide +kernel
theorem d_MD_init_108 : decode b_MD_init 108 = .ok (.putfield 46, 3) := by decide +kernel
theorem d_MD_init_111 : decode b_MD_init 111 = .ok (.aload_n 0, 1) := by decide +kernel
theorem d_MD_init_112 : decode b_MD_init 112 = .ok (.bipush 12, 2) := by decide +kernel
theorem d_MD_init_114 : decode b_MD_init 114 = .ok (.newarray .int, 2) := by decide +kernel
theorem d_MD_init_116 : decode b_MD_init 116 = .ok (.putfield 49, 3) := by decide +kernel
theorem d_MD_init_119 : decode b_MD_init 119 = .ok (.aload_n 0, 1) := by decide +kernel
theorem d_MD_init_120 : decode b_MD_init 120 = .ok (.bipush 13, 2) := by decide +kernel
theorem d_MD_init_122 : decode b_MD_init 122 = .ok (.newarray .int, 2) := by decide +kernel
theorem d_MD_init_124 : decode b_MD_init 124 = .ok (.putfield 52, 3) := by decide +kernel
theorem d_MD_init_127 : decode b_MD_init 127 = .ok (.aload_n 0, 1) := by decide +kernel
theorem d_MD_init_128 : decode b_MD_init 128 = .ok (.bipush 110, 2) := by decide +kernel
theorem d_MD_init_130 : decode b_MD_init 130 = .ok (.newarray .int, 2) := by decide +kernel
theorem d_MD_init_132 : decode b_MD_init 132 = .ok (.putfield 55, 3) := by decide +kernel
theorem d_MD_init_135 : decode b_MD_init 135 = .ok (.aload_n 0, 1) := by decide +kernel
theorem d_MD_init_136 : decode b_MD_init 136 = .ok (.bipush 60, 2) := by decide +kernel
theorem d_MD_init_138 : decode b_MD_init 138 = .ok (.newarray .int, 2) := by decide +kernel
theorem d_MD_init_140 : decode b_MD_init 140 = .ok (.putfield 58, 3) := by decide +kernel
theorem d_MD_init_143 : decode b_MD_init 143 = .ok (.aload_n 0, 1) := by decide +kernel
theorem d_MD_init_144 : decode b_MD_init 144 = .ok (.bipush 60, 2) := by decide +kernel
theorem d_MD_init_146 : decode b_MD_init 146 = .ok (.newarray .int, 2) := by decide +kernel
theorem d_MD_init_148 : decode b_MD_init 148 = .ok (.putfield 61, 3) := by decide +kernel
theorem d_MD_init_151 : decode b_MD_init 151 = .ok (.aload_n 0, 1) := by decide +kernel
theorem d_MD_init_152 : decode b_MD_init 152 = .ok (.bipush 60, 2) := by decide +kernel
theorem d_MD_init_154 : decode b_MD_init 154 = .ok (.newarray .int, 2) := by decide +kernel
theorem d_MD_init_156 : decode b_MD_init 156 = .ok (.putfield 64, 3) := by decide +kernel
theorem d_MD_init_159 : decode b_MD_init 159 = .ok (.iconst 0, 1) := by decide +kernel
theorem d_MD_init_160 : decode b_MD_init 160 = .ok (.istore_n 1, 1) := by decide +kernel
theorem d_MD_init_161 : decode b_MD_init 161 = .ok (.sipush 2000, 3) := by decide +kernel
theorem d_MD_init_164 : decode b_MD_init 164 = .ok (.istore_n 2, 1) := by decide +kernel
theorem d_MD_init_165 : decode b_MD_init 165 = .ok (.iload_n 2, 1) := by decide +kernel
theorem d_MD_init_166 : decode b_MD_init 166 = .ok (.sipush 2004, 3) := by decide +kernel
theorem d_MD_init_169 : decode b_MD_init 169 = .ok (.if_icmp .ge 89, 3) := by decide +kernel
theorem d_MD_init_172 : decode b_MD_init 172 = .ok (.iconst 1, 1) := by decide +kernel
theorem d_MD_init_173 : decode b_MD_init 173 = .ok (.istore_n 3, 1) := by decide +kernel
theorem d_MD_init_174 : decode b_MD_init 174 = .ok (.iload_n 3, 1) := by decide +kernel
theorem d_MD_init_175 : decode b_MD_init 175 = .ok (.bipush 13, 2) := by decide +kernel
theorem d_MD_init_177 : decode b_MD_init 177 = .ok (.if_icmp .ge 75, 3) := by decide +kernel
theorem d_MD_init_180 : decode b_MD_init 180 = .ok (.iconst 1, 1) := by decide +kernel
theorem d_MD_init_181 : decode b_MD_init 181 = .ok (.istore 4, 2) := by decide +kernel
theorem d_MD_init_183 : decode b_MD_init 183 = .ok (.iload 4, 2) := by decide +kernel
theorem d_MD_init_185 : decode b_MD_init 185 = .ok (.iload_n 2, 1) := by decide +kernel
theorem d_MD_init_186 : decode b_MD_init 186 = .ok (.iload_n 3, 1) := by decide +kernel
theorem d_MD_init_187 : decode b_MD_init 187 = .ok (.invokestatic 67, 3) := by decide +kernel
theorem d_MD_init_190 : decode b_MD_init 190 = .ok (.if_icmp .gt 56, 3) := by decide +kernel
theorem d_MD_init_193 : decode b_MD_init 193 = .ok (.aload_n 0, 1) := by decide +kernel
theorem d_MD_init_194 : decode b_MD_init 194 = .ok (.getfield 13, 3) := by decide +kernel
theorem d_MD_init_197 : decode b_MD_init 197 = .ok (.iload_n 1, 1) := by decide +kernel
theorem d_MD_init_198 : decode b_MD_init 198 = .ok (.sipush 10000, 3) := by decide +kernel
theorem d_MD_init_201 : decode b_MD_init 201 = .ok (.iload_n 2, 1) := by decide +kernel
theorem d_MD_init_202 : decode b_MD_init 202 = .ok (.imul, 1) := by decide +kernel
theorem d_MD_init_203 : decode b_MD_init 203 = .ok (.bipush 100, 2) := by decide +kernel
theorem d_MD_init_205 : decode b_MD_init 205 = .ok (.iload_n 3, 1) := by decide +kernel
theorem d_MD_init_206 : decode b_MD_init 206 = .ok (.imul, 1) := by decide +kernel
theorem d_MD_init_207 : decode b_MD_init 207 = .ok (.iadd, 1) := by decide +kernel
theorem d_MD_init_208 : decode b_MD_init 208 = .ok (.iload 4, 2) := by decide +kernel
theorem d_MD_init_210 : decode b_MD_init 210 = .ok (.iadd, 1) := by decide +kernel
theorem d_MD_init_211 : decode b_MD_init 211 = .ok (.iastore, 1) := by decide +kernel
theorem d_MD_init_212 : decode b_MD_init 212 = .ok (.iload_n 2, 1) := by decide +kernel
theorem d_MD_init_213 : decode b_MD_init 213 = .ok (.invokestatic 71, 3) := by decide +kernel
theorem d_MD_init_216 : decode b_MD_init 216 = .ok (.bipush 100, 2) := by decide +kernel
theorem d_MD_init_218 : decode b_MD_init 218 = .ok (.iload_n 3, 1) := by decide +kernel
theorem d_MD_init_219 : decode b_MD_init 219 = .ok (.imul, 1) := by decide +kernel
theorem d_MD_init_220 : decode b_MD_init 220 = .ok (.iload 4, 2) := by decide +kernel
theorem d_MD_init_222 : decode b_MD_init 222 = .ok (.iadd, 1) := by decide +kernel
theorem d_MD_init_223 : decode b_MD_init 223 = .ok (.if_icmp .ne 14, 3) := by decide +kernel
theorem d_MD_init_226 : decode b_MD_init 226 = .ok (.aload_n 0, 1) := by decide +kernel
theorem d_MD_init_227 : decode b_MD_init 227 = .ok (.getfield 16, 3) := by decide +kernel
theorem d_MD_init_230 : decode b_MD_init 230 = .ok (.iload_n 2, 1) := by decide +kernel
theorem d_MD_init_231 : decode b_MD_init 231 = .ok (.sipush 2000, 3) := by decide +kernel
theorem d_MD_init_234 : decode b_MD_init 234 = .ok (.isub, 1) := by decide +kernel
theorem d_MD_init_235 : decode b_MD_init 235 = .ok (.iload_n 1, 1) := by decide +kernel
theorem d_MD_init_236 : decode b_MD_init 236 = .ok (.iastore, 1) := by decide +kernel
theorem d_MD_init_237 : decode b_MD_init 237 = .ok (.iinc 1 1, 3) := by decide +kernel
theorem d_MD_init_240 : decode b_MD_init 240 = .ok (.iinc 4 1, 3) := by decide +kernel
theorem d_MD_init_243 : decode b_MD_init 243 = .ok (.goto (-60), 3) := by decide +kernel
theorem d_MD_init_246 : decode b_MD_init 246 = .ok (.iinc 3 1, 3) := by decide +kernel
theorem d_MD_init_249 : decode b_MD_init 249 = .ok (.goto (-75), 3) := by decide +kernel
theorem d_MD_init_252 : decode b_MD_init 252 = .ok (.iinc 2 1, 3) := by decide +kernel
theorem d_MD_init_255 : decode b_MD_init 255 = .ok (.goto (-90), 3) := by decide +kernel
theorem d_MD_init_258 : decode b_MD_init 258 = .ok (.return_, 1) := by decide +kernel
