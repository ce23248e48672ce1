theorem d_MD_takeMatcher_0 : decode b_MD_takeMatcher 0 = .ok (.iload_n 1, 1) := by decide +kernel
theorem d_MD_takeMatcher_1 : decode b_MD_takeMatcher 1 = .ok (.tableswitch 164 10 15 #[39, 57, 92, 110, 145, 152], 39) := by decide +kernel
theorem d_MD_takeMatcher_40 : decode b_MD_takeMatcher 40 = .ok (.aload_n 0, 1) := by decide +kernel
theorem d_MD_takeMatcher_41 : decode b_MD_takeMatcher 41 = .ok (.bipush 11, 2) := by decide +kernel
theorem d_MD_takeMatcher_43 : decode b_MD_takeMatcher 43 = .ok (.iload_n 2, 1) := by decide +kernel
theorem d_MD_takeMatcher_44 : decode b_MD_takeMatcher 44 = .ok (.iconst 0, 1) := by decide +kernel
theorem d_MD_takeMatcher_45 : decode b_MD_takeMatcher 45 = .ok (.invokevirtual 106, 3) := by decide +kernel
theorem d_MD_takeMatcher_48 : decode b_MD_takeMatcher 48 = .ok (.aload_n 0, 1) := by decide +kernel
theorem d_MD_takeMatcher_49 : decode b_MD_takeMatcher 49 = .ok (.bipush 12, 2) := by decide +kernel
theorem d_MD_takeMatcher_51 : decode b_MD_takeMatcher 51 = .ok (.iload_n 2, 1) := by decide +kernel
theorem d_MD_takeMatcher_52 : decode b_MD_takeMatcher 52 = .ok (.iconst 0, 1) := by decide +kernel
theorem d_MD_takeMatcher_53 : decode b_MD_takeMatcher 53 = .ok (.invokevirtual 106, 3) := by decide +kernel
theorem d_MD_takeMatcher_56 : decode b_MD_takeMatcher 56 = .ok (.iconst 2, 1) := by decide +kernel
theorem d_MD_takeMatcher_57 : decode b_MD_takeMatcher 57 = .ok (.ireturn, 1) := by decide +kernel
theorem d_MD_takeMatcher_58 : decode b_MD_takeMatcher 58 = .ok (.iload_n 3, 1) := by decide +kernel
theorem d_MD_takeMatcher_59 : decode b_MD_takeMatcher 59 = .ok (.bipush 124, 2) := by decide +kernel
theorem d_MD_takeMatcher_61 : decode b_MD_takeMatcher 61 = .ok (.if_icmp .eq 5, 3) := by decide +kernel
theorem d_MD_takeMatcher_64 : decode b_MD_takeMatcher 64 = .ok (.iconst 2, 1) := by decide +kernel
theorem d_MD_takeMatcher_65 : decode b_MD_takeMatcher 65 = .ok (.ireturn, 1) := by decide +kernel
theorem d_MD_takeMatcher_66 : decode b_MD_takeMatcher 66 = .ok (.aload_n 0, 1) := by decide +kernel
theorem d_MD_takeMatcher_67 : decode b_MD_takeMatcher 67 = .ok (.bipush 11, 2) := by decide +kernel
theorem d_MD_takeMatcher_69 : decode b_MD_takeMatcher 69 = .ok (.iload_n 2, 1) := by decide +kernel
theorem d_MD_takeMatcher_70 : decode b_MD_takeMatcher 70 = .ok (.iconst 0, 1) := by decide +kernel
theorem d_MD_takeMatcher_71 : decode b_MD_takeMatcher 71 = .ok (.invokevirtual 106, 3) := by decide +kernel
theorem d_MD_takeMatcher_74 : decode b_MD_takeMatcher 74 = .ok (.aload_n 0, 1) := by decide +kernel
theorem d_MD_takeMatcher_75 : decode b_MD_takeMatcher 75 = .ok (.bipush 16, 2) := by decide +kernel
theorem d_MD_takeMatcher_77 : decode b_MD_takeMatcher 77 = .ok (.bipush 101, 2) := by decide +kernel
theorem d_MD_takeMatcher_79 : decode b_MD_takeMatcher 79 = .ok (.iconst 0, 1) := by decide +kernel
theorem d_MD_takeMatcher_80 : decode b_MD_takeMatcher 80 = .ok (.invokevirtual 106, 3) := by decide +kernel
theorem d_MD_takeMatcher_83 : decode b_MD_takeMatcher 83 = .ok (.aload_n 0, 1) := by decide +kernel
theorem d_MD_takeMatcher_84 : decode b_MD_takeMatcher 84 = .ok (.bipush 12, 2) := by decide +kernel
theorem d_MD_takeMatcher_86 : decode b_MD_takeMatcher 86 = .ok (.iload_n 2, 1) := by decide +kernel
theorem d_MD_takeMatcher_87 : decode b_MD_takeMatcher 87 = .ok (.iconst 0, 1) := by decide +kernel
theorem d_MD_takeMatcher_88 : decode b_MD_takeMatcher 88 = .ok (.invokevirtual 106, 3) := by decide +kernel
theorem d_MD_takeMatcher_91 : decode b_MD_takeMatcher 91 = .ok (.iconst 1, 1) := by decide +kernel
theorem d_MD_takeMatcher_92 : decode b_MD_takeMatcher 92 = .ok (.ireturn, 1) := by decide +kernel
theorem d_MD_takeMatcher_93 : decode b_MD_takeMatcher 93 = .ok (.aload_n 0, 1) := by decide +kernel
theorem d_MD_takeMatcher_94 : decode b_MD_takeMatcher 94 = .ok (.bipush 13, 2) := by decide +kernel
theorem d_MD_takeMatcher_96 : decode b_MD_takeMatcher 96 = .ok (.iload_n 2, 1) := by decide +kernel
theorem d_MD_takeMatcher_97 : decode b_MD_takeMatcher 97 = .ok (.iconst 0, 1) := by decide +kernel
theorem d_MD_takeMatcher_98 : decode b_MD_takeMatcher 98 = .ok (.invokevirtual 106, 3) := by decide +kernel
theorem d_MD_takeMatcher_101 : decode b_MD_takeMatcher 101 = .ok (.aload_n 0, 1) := by decide +kernel
theorem d_MD_takeMatcher_102 : decode b_MD_takeMatcher 102 = .ok (.bipush 14, 2) := by decide +kernel
theorem d_MD_takeMatcher_104 : decode b_MD_takeMatcher 104 = .ok (.iload_n 2, 1) := by decide +kernel
theorem d_MD_takeMatcher_105 : decode b_MD_takeMatcher 105 = .ok (.iconst 0, 1) := by decide +kernel
theorem d_MD_takeMatcher_106 : decode b_MD_takeMatcher 106 = .ok (.invokevirtual 106, 3) := by decide +kernel
theorem d_MD_takeMatcher_109 : decode b_MD_takeMatcher 109 = .ok (.iconst 2, 1) := by decide +kernel
theorem d_MD_takeMatcher_110 : decode b_MD_takeMatcher 110 = .ok (.ireturn, 1) := by decide +kernel
theorem d_MD_takeMatcher_111 : decode b_MD_takeMatcher 111 = .ok (.iload_n 3, 1) := by decide +kernel
theorem d_MD_takeMatcher_112 : decode b_MD_takeMatcher 112 = .ok (.bipush 38, 2) := by decide +kernel
theorem d_MD_takeMatcher_114 : decode b_MD_takeMatcher 114 = .ok (.if_icmp .eq 5, 3) := by decide +kernel
theorem d_MD_takeMatcher_117 : decode b_MD_takeMatcher 117 = .ok (.iconst 2, 1) := by decide +kernel
theorem d_MD_takeMatcher_118 : decode b_MD_takeMatcher 118 = .ok (.ireturn, 1) := by decide +kernel
theorem d_MD_takeMatcher_119 : decode b_MD_takeMatcher 119 = .ok (.aload_n 0, 1) := by decide +kernel
theorem d_MD_takeMatcher_120 : decode b_MD_takeMatcher 120 = .ok (.bipush 13, 2) := by decide +kernel
theorem d_MD_takeMatcher_122 : decode b_MD_takeMatcher 122 = .ok (.iload_n 2, 1) := by decide +kernel
theorem d_MD_takeMatcher_123 : decode b_MD_takeMatcher 123 = .ok (.iconst 0, 1) := by decide +kernel
theorem d_MD_takeMatcher_124 : decode b_MD_takeMatcher 124 = .ok (.invokevirtual 106, 3) := by decide +kernel
theorem d_MD_takeMatcher_127 : decode b_MD_takeMatcher 127 = .ok (.aload_n 0, 1) := by decide +kernel
theorem d_MD_takeMatcher_128 : decode b_MD_takeMatcher 128 = .ok (.bipush 16, 2) := by decide +kernel
theorem d_MD_takeMatcher_130 : decode b_MD_takeMatcher 130 = .ok (.bipush 100, 2) := by decide +kernel
theorem d_MD_takeMatcher_132 : decode b_MD_takeMatcher 132 = .ok (.iconst 0, 1) := by decide +kernel
theorem d_MD_takeMatcher_133 : decode b_MD_takeMatcher 133 = .ok (.invokevirtual 106, 3) := by decide +kernel
theorem d_MD_takeMatcher_136 : decode b_MD_takeMatcher 136 = .ok (.aload_n 0, 1) := by decide +kernel
theorem d_MD_takeMatcher_137 : decode b_MD_takeMatcher 137 = .ok (.bipush 14, 2) := by decide +kernel
theorem d_MD_takeMatcher_139 : decode b_MD_takeMatcher 139 = .ok (.iload_n 2, 1) := by decide +kernel
theorem d_MD_takeMatcher_140 : decode b_MD_takeMatcher 140 = .ok (.iconst 0, 1) := by decide +kernel
theorem d_MD_takeMatcher_141 : decode b_MD_takeMatcher 141 = .ok (.invokevirtual 106, 3) := by decide +kernel
theorem d_MD_takeMatcher_144 : decode b_MD_takeMatcher 144 = .ok (.iconst 1, 1) := by decide +kernel
theorem d_MD_takeMatcher_145 : decode b_MD_takeMatcher 145 = .ok (.ireturn, 1) := by decide +kernel
theorem d_MD_takeMatcher_146 : decode b_MD_takeMatcher 146 = .ok (.aload_n 0, 1) := by decide +kernel
theorem d_MD_takeMatcher_147 : decode b_MD_takeMatcher 147 = .ok (.iload_n 2, 1) := by decide +kernel
theorem d_MD_takeMatcher_148 : decode b_MD_takeMatcher 148 = .ok (.iload_n 3, 1) := by decide +kernel
theorem d_MD_takeMatcher_149 : decode b_MD_takeMatcher 149 = .ok (.invokevirtual 128, 3) := by decide +kernel
theorem d_MD_takeMatcher_152 : decode b_MD_takeMatcher 152 = .ok (.ireturn, 1) := by decide +kernel
theorem d_MD_takeMatcher_153 : decode b_MD_takeMatcher 153 = .ok (.iload_n 3, 1) := by decide +kernel
theorem d_MD_takeMatcher_154 : decode b_MD_takeMatcher 154 = .ok (.bipush 41, 2) := by decide +kernel
theorem d_MD_takeMatcher_156 : decode b_MD_takeMatcher 156 = .ok (.if_icmp .ne 7, 3) := by decide +kernel
theorem d_MD_takeMatcher_159 : decode b_MD_takeMatcher 159 = .ok (.iconst 1, 1) := by decide +kernel
theorem d_MD_takeMatcher_160 : decode b_MD_takeMatcher 160 = .ok (.goto 4, 3) := by decide +kernel
theorem d_MD_takeMatcher_163 : decode b_MD_takeMatcher 163 = .ok (.iconst 0, 1) := by decide +kernel
theorem d_MD_takeMatcher_164 : decode b_MD_takeMatcher 164 = .ok (.ireturn, 1) := by decide +kernel
theorem d_MD_takeMatcher_165 : decode b_MD_takeMatcher 165 = .ok (.aload_n 0, 1) := by decide +kernel
theorem d_MD_takeMatcher_166 : decode b_MD_takeMatcher 166 = .ok (.iload_n 2, 1) := by decide +kernel
theorem d_MD_takeMatcher_167 : decode b_MD_takeMatcher 167 = .ok (.invokevirtual 99, 3) := by decide +kernel
theorem d_MD_takeMatcher_170 : decode b_MD_takeMatcher 170 = .ok (.iconst 2, 1) := by decide +kernel
theorem d_MD_takeMatcher_171 : decode b_MD_takeMatcher 171 = .ok (.ireturn, 1) := by decide +kernel
theorem d_MD_beginOne_0 : decode b_MD_beginOne 0 = .ok (.iload_n 2, 1) := by decide +kernel
theorem d_MD_beginOne_1 : decode b_MD_beginOne 1 = .ok (.lookupswitch 236 #[(33, 83), (40, 102), (67, 191), (68, 161), (70, 206), (78, 146), (80, 176), (87, 131), (89, 221)], 83) := by decide +kernel
theorem d_MD_beginOne_84 : decode b_MD_beginOne 84 = .ok (.aload_n 0, 1) := by decide +kernel
theorem d_MD_beginOne_85 : decode b_MD_beginOne 85 = .ok (.bipush 16, 2) := by decide +kernel
theorem d_MD_beginOne_87 : decode b_MD_beginOne 87 = .ok (.bipush 102, 2) := by decide +kernel
theorem d_MD_beginOne_89 : decode b_MD_beginOne 89 = .ok (.iconst 0, 1) := by decide +kernel
theorem d_MD_beginOne_90 : decode b_MD_beginOne 90 = .ok (.invokevirtual 106, 3) := by decide +kernel
theorem d_MD_beginOne_93 : decode b_MD_beginOne 93 = .ok (.aload_n 0, 1) := by decide +kernel
theorem d_MD_beginOne_94 : decode b_MD_beginOne 94 = .ok (.bipush 14, 2) := by decide +kernel
theorem d_MD_beginOne_96 : decode b_MD_beginOne 96 = .ok (.iload_n 1, 1) := by decide +kernel
theorem d_MD_beginOne_97 : decode b_MD_beginOne 97 = .ok (.iconst 0, 1) := by decide +kernel
theorem d_MD_beginOne_98 : decode b_MD_beginOne 98 = .ok (.invokevirtual 106, 3) := by decide +kernel
theorem d_MD_beginOne_101 : decode b_MD_beginOne 101 = .ok (.iconst 1, 1) := by decide +kernel
theorem d_MD_beginOne_102 : decode b_MD_beginOne 102 = .ok (.ireturn, 1) := by decide +kernel
theorem d_MD_beginOne_103 : decode b_MD_beginOne 103 = .ok (.aload_n 0, 1) := by decide +kernel
theorem d_MD_beginOne_104 : decode b_MD_beginOne 104 = .ok (.bipush 15, 2) := by decide +kernel
theorem d_MD_beginOne_106 : decode b_MD_beginOne 106 = .ok (.iconst 0, 1) := by decide +kernel
theorem d_MD_beginOne_107 : decode b_MD_beginOne 107 = .ok (.iconst 0, 1) := by decide +kernel
theorem d_MD_beginOne_108 : decode b_MD_beginOne 108 = .ok (.invokevirtual 106, 3) := by decide +kernel
theorem d_MD_beginOne_111 : decode b_MD_beginOne 111 = .ok (.aload_n 0, 1) := by decide +kernel
theorem d_MD_beginOne_112 : decode b_MD_beginOne 112 = .ok (.bipush 10, 2) := by decide +kernel
theorem d_MD_beginOne_114 : decode b_MD_beginOne 114 = .ok (.iload_n 1, 1) := by decide +kernel
theorem d_MD_beginOne_115 : decode b_MD_beginOne 115 = .ok (.iconst 1, 1) := by decide +kernel
theorem d_MD_beginOne_116 : decode b_MD_beginOne 116 = .ok (.iadd, 1) := by decide +kernel
theorem d_MD_beginOne_117 : decode b_MD_beginOne 117 = .ok (.iconst 0, 1) := by decide +kernel
theorem d_MD_beginOne_118 : decode b_MD_beginOne 118 = .ok (.invokevirtual 106, 3) := by decide +kernel
theorem d_MD_beginOne_121 : decode b_MD_beginOne 121 = .ok (.iload_n 1, 1) := by decide +kernel
theorem d_MD_beginOne_122 : decode b_MD_beginOne 122 = .ok (.iconst 4, 1) := by decide +kernel
theorem d_MD_beginOne_123 : decode b_MD_beginOne 123 = .ok (.if_icmp .ge 7, 3) := by decide +kernel
theorem d_MD_beginOne_126 : decode b_MD_beginOne 126 = .ok (.iconst 1, 1) := by decide +kernel
theorem d_MD_beginOne_127 : decode b_MD_beginOne 127 = .ok (.goto 4, 3) := by decide +kernel
theorem d_MD_beginOne_130 : decode b_MD_beginOne 130 = .ok (.iconst 0, 1) := by decide +kernel
theorem d_MD_beginOne_131 : decode b_MD_beginOne 131 = .ok (.ireturn, 1) := by decide +kernel
theorem d_MD_beginOne_132 : decode b_MD_beginOne 132 = .ok (.aload_n 0, 1) := by decide +kernel
theorem d_MD_beginOne_133 : decode b_MD_beginOne 133 = .ok (.bipush 20, 2) := by decide +kernel
theorem d_MD_beginOne_135 : decode b_MD_beginOne 135 = .ok (.aload_n 0, 1) := by decide +kernel
theorem d_MD_beginOne_136 : decode b_MD_beginOne 136 = .ok (.bipush 20, 2) := by decide +kernel
theorem d_MD_beginOne_138 : decode b_MD_beginOne 138 = .ok (.invokevirtual 131, 3) := by decide +kernel
theorem d_MD_beginOne_141 : decode b_MD_beginOne 141 = .ok (.iconst 0, 1) := by decide +kernel
theorem d_MD_beginOne_142 : decode b_MD_beginOne 142 = .ok (.invokevirtual 106, 3) := by decide +kernel
theorem d_MD_beginOne_145 : decode b_MD_beginOne 145 = .ok (.iconst 1, 1) := by decide +kernel
theorem d_MD_beginOne_146 : decode b_MD_beginOne 146 = .ok (.ireturn, 1) := by decide +kernel
theorem d_MD_beginOne_147 : decode b_MD_beginOne 147 = .ok (.aload_n 0, 1) := by decide +kernel
theorem d_MD_beginOne_148 : decode b_MD_beginOne 148 = .ok (.bipush 21, 2) := by decide +kernel
theorem d_MD_beginOne_150 : decode b_MD_beginOne 150 = .ok (.aload_n 0, 1) := by decide +kernel
theorem d_MD_beginOne_151 : decode b_MD_beginOne 151 = .ok (.bipush 21, 2) := by decide +kernel
theorem d_MD_beginOne_153 : decode b_MD_beginOne 153 = .ok (.invokevirtual 131, 3) := by decide +kernel
theorem d_MD_beginOne_156 : decode b_MD_beginOne 156 = .ok (.iconst 0, 1) := by decide +kernel
theorem d_MD_beginOne_157 : decode b_MD_beginOne 157 = .ok (.invokevirtual 106, 3) := by decide +kernel
theorem d_MD_beginOne_160 : decode b_MD_beginOne 160 = .ok (.iconst 1, 1) := by decide +kernel
theorem d_MD_beginOne_161 : decode b_MD_beginOne 161 = .ok (.ireturn, 1) := by decide +kernel
theorem d_MD_beginOne_162 : decode b_MD_beginOne 162 = .ok (.aload_n 0, 1) := by decide +kernel
theorem d_MD_beginOne_163 : decode b_MD_beginOne 163 = .ok (.bipush 22, 2) := by decide +kernel
theorem d_MD_beginOne_165 : decode b_MD_beginOne 165 = .ok (.aload_n 0, 1) := by decide +kernel
theorem d_MD_beginOne_166 : decode b_MD_beginOne 166 = .ok (.bipush 22, 2) := by decide +kernel
theorem d_MD_beginOne_168 : decode b_MD_beginOne 168 = .ok (.invokevirtual 131, 3) := by decide +kernel
theorem d_MD_beginOne_171 : decode b_MD_beginOne 171 = .ok (.iconst 0, 1) := by decide +kernel
theorem d_MD_beginOne_172 : decode b_MD_beginOne 172 = .ok (.invokevirtual 106, 3) := by decide +kernel
theorem d_MD_beginOne_175 : decode b_MD_beginOne 175 = .ok (.iconst 1, 1) := by decide +kernel
theorem d_MD_beginOne_176 : decode b_MD_beginOne 176 = .ok (.ireturn, 1) := by decide +kernel
theorem d_MD_beginOne_177 : decode b_MD_beginOne 177 = .ok (.aload_n 0, 1) := by decide +kernel
theorem d_MD_beginOne_178 : decode b_MD_beginOne 178 = .ok (.bipush 23, 2) := by decide +kernel
theorem d_MD_beginOne_180 : decode b_MD_beginOne 180 = .ok (.aload_n 0, 1) := by decide +kernel
theorem d_MD_beginOne_181 : decode b_MD_beginOne 181 = .ok (.bipush 23, 2) := by decide +kernel
theorem d_MD_beginOne_183 : decode b_MD_beginOne 183 = .ok (.invokevirtual 131, 3) := by decide +kernel
theorem d_MD_beginOne_186 : decode b_MD_beginOne 186 = .ok (.iconst 0, 1) := by decide +kernel
theorem d_MD_beginOne_187 : decode b_MD_beginOne 187 = .ok (.invokevirtual 106, 3) := by decide +kernel
theorem d_MD_beginOne_190 : decode b_MD_beginOne 190 = .ok (.iconst 1, 1) := by decide +kernel
theorem d_MD_beginOne_191 : decode b_MD_beginOne 191 = .ok (.ireturn, 1) := by decide +kernel
theorem d_MD_beginOne_192 : decode b_MD_beginOne 192 = .ok (.aload_n 0, 1) := by decide +kernel
theorem d_MD_beginOne_193 : decode b_MD_beginOne 193 = .ok (.bipush 24, 2) := by decide +kernel
theorem d_MD_beginOne_195 : decode b_MD_beginOne 195 = .ok (.aload_n 0, 1) := by decide +kernel
theorem d_MD_beginOne_196 : decode b_MD_beginOne 196 = .ok (.bipush 24, 2) := by decide +kernel
theorem d_MD_beginOne_198 : decode b_MD_beginOne 198 = .ok (.invokevirtual 131, 3) := by decide +kernel
theorem d_MD_beginOne_201 : decode b_MD_beginOne 201 = .ok (.iconst 0, 1) := by decide +kernel
theorem d_MD_beginOne_202 : decode b_MD_beginOne 202 = .ok (.invokevirtual 106, 3) := by decide +kernel
theorem d_MD_beginOne_205 : decode b_MD_beginOne 205 = .ok (.iconst 1, 1) := by decide +kernel
theorem d_MD_beginOne_206 : decode b_MD_beginOne 206 = .ok (.ireturn, 1) := by decide +kernel
theorem d_MD_beginOne_207 : decode b_MD_beginOne 207 = .ok (.aload_n 0, 1) := by decide +kernel
theorem d_MD_beginOne_208 : decode b_MD_beginOne 208 = .ok (.bipush 25, 2) := by decide +kernel
theorem d_MD_beginOne_210 : decode b_MD_beginOne 210 = .ok (.aload_n 0, 1) := by decide +kernel
theorem d_MD_beginOne_211 : decode b_MD_beginOne 211 = .ok (.bipush 25, 2) := by decide +kernel
theorem d_MD_beginOne_213 : decode b_MD_beginOne 213 = .ok (.invokevirtual 131, 3) := by decide +kernel
theorem d_MD_beginOne_216 : decode b_MD_beginOne 216 = .ok (.iconst 0, 1) := by decide +kernel
theorem d_MD_beginOne_217 : decode b_MD_beginOne 217 = .ok (.invokevirtual 106, 3) := by decide +kernel
theorem d_MD_beginOne_220 : decode b_MD_beginOne 220 = .ok (.iconst 1, 1) := by decide +kernel
theorem d_MD_beginOne_221 : decode b_MD_beginOne 221 = .ok (.ireturn, 1) := by decide +kernel
theorem d_MD_beginOne_222 : decode b_MD_beginOne 222 = .ok (.aload_n 0, 1) := by decide +kernel
theorem d_MD_beginOne_223 : decode b_MD_beginOne 223 = .ok (.bipush 26, 2) := by decide +kernel
theorem d_MD_beginOne_225 : decode b_MD_beginOne 225 = .ok (.aload_n 0, 1) := by decide +kernel
theorem d_MD_beginOne_226 : decode b_MD_beginOne 226 = .ok (.bipush 26, 2) := by decide +kernel
theorem d_MD_beginOne_228 : decode b_MD_beginOne 228 = .ok (.invokevirtual 131, 3) := by decide +kernel
theorem d_MD_beginOne_231 : decode b_MD_beginOne 231 = .ok (.iconst 0, 1) := by decide +kernel
theorem d_MD_beginOne_232 : decode b_MD_beginOne 232 = .ok (.invokevirtual 106, 3) := by decide +kernel
theorem d_MD_beginOne_235 : decode b_MD_beginOne 235 = .ok (.iconst 1, 1) := by decide +kernel
theorem d_MD_beginOne_236 : decode b_MD_beginOne 236 = .ok (.ireturn, 1) := by decide +kernel
theorem d_MD_beginOne_237 : decode b_MD_beginOne 237 = .ok (.iconst 0, 1) := by decide +kernel
theorem d_MD_beginOne_238 : decode b_MD_beginOne 238 = .ok (.ireturn, 1) := by decide +kernel
