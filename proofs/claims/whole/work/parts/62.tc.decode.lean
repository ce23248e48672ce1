theorem d_RC_next_0 : decode b_RC_next 0 = .ok (.aload_n 0, 1) := by decide +kernel
theorem d_RC_next_1 : decode b_RC_next 1 = .ok (.iload_n 1, 1) := by decide +kernel
theorem d_RC_next_2 : decode b_RC_next 2 = .ok (.iload_n 2, 1) := by decide +kernel
theorem d_RC_next_3 : decode b_RC_next 3 = .ok (.iload_n 3, 1) := by decide +kernel
theorem d_RC_next_4 : decode b_RC_next 4 = .ok (.invokevirtual 69, 3) := by decide +kernel
theorem d_RC_next_7 : decode b_RC_next 7 = .ok (.astore 4, 2) := by decide +kernel
theorem d_RC_next_9 : decode b_RC_next 9 = .ok (.aload_n 0, 1) := by decide +kernel
theorem d_RC_next_10 : decode b_RC_next 10 = .ok (.getfield 16, 3) := by decide +kernel
theorem d_RC_next_13 : decode b_RC_next 13 = .ok (.iload_n 2, 1) := by decide +kernel
theorem d_RC_next_14 : decode b_RC_next 14 = .ok (.iload_n 3, 1) := by decide +kernel
theorem d_RC_next_15 : decode b_RC_next 15 = .ok (.invokevirtual 73, 3) := by decide +kernel
theorem d_RC_next_18 : decode b_RC_next 18 = .ok (.ifCond .eq 5, 3) := by decide +kernel
theorem d_RC_next_21 : decode b_RC_next 21 = .ok (.iconst (-1), 1) := by decide +kernel
theorem d_RC_next_22 : decode b_RC_next 22 = .ok (.ireturn, 1) := by decide +kernel
theorem d_RC_next_23 : decode b_RC_next 23 = .ok (.aload 4, 2) := by decide +kernel
theorem d_RC_next_25 : decode b_RC_next 25 = .ok (.getfield 77, 3) := by decide +kernel
theorem d_RC_next_28 : decode b_RC_next 28 = .ok (.iload_n 2, 1) := by decide +kernel
theorem d_RC_next_29 : decode b_RC_next 29 = .ok (.iload_n 3, 1) := by decide +kernel
theorem d_RC_next_30 : decode b_RC_next 30 = .ok (.invokevirtual 81, 3) := by decide +kernel
theorem d_RC_next_33 : decode b_RC_next 33 = .ok (.istore 5, 2) := by decide +kernel
theorem d_RC_next_35 : decode b_RC_next 35 = .ok (.aload_n 0, 1) := by decide +kernel
theorem d_RC_next_36 : decode b_RC_next 36 = .ok (.getfield 16, 3) := by decide +kernel
theorem d_RC_next_39 : decode b_RC_next 39 = .ok (.iload_n 2, 1) := by decide +kernel
theorem d_RC_next_40 : decode b_RC_next 40 = .ok (.iload_n 3, 1) := by decide +kernel
theorem d_RC_next_41 : decode b_RC_next 41 = .ok (.invokevirtual 90, 3) := by decide +kernel
theorem d_RC_next_44 : decode b_RC_next 44 = .ok (.aload 4, 2) := by decide +kernel
theorem d_RC_next_46 : decode b_RC_next 46 = .ok (.getfield 77, 3) := by decide +kernel
theorem d_RC_next_49 : decode b_RC_next 49 = .ok (.iload_n 2, 1) := by decide +kernel
theorem d_RC_next_50 : decode b_RC_next 50 = .ok (.iload 5, 2) := by decide +kernel
theorem d_RC_next_52 : decode b_RC_next 52 = .ok (.invokevirtual 94, 3) := by decide +kernel
theorem d_RC_next_55 : decode b_RC_next 55 = .ok (.ldc2_w 97, 3) := by decide +kernel
theorem d_RC_next_58 : decode b_RC_next 58 = .ok (.lxor, 1) := by decide +kernel
theorem d_RC_next_59 : decode b_RC_next 59 = .ok (.land, 1) := by decide +kernel
theorem d_RC_next_60 : decode b_RC_next 60 = .ok (.lstore 6, 2) := by decide +kernel
theorem d_RC_next_62 : decode b_RC_next 62 = .ok (.iload_n 2, 1) := by decide +kernel
theorem d_RC_next_63 : decode b_RC_next 63 = .ok (.istore 8, 2) := by decide +kernel
theorem d_RC_next_65 : decode b_RC_next 65 = .ok (.lload 6, 2) := by decide +kernel
theorem d_RC_next_67 : decode b_RC_next 67 = .ok (.lconst 0, 1) := by decide +kernel
theorem d_RC_next_68 : decode b_RC_next 68 = .ok (.lcmp, 1) := by decide +kernel
theorem d_RC_next_69 : decode b_RC_next 69 = .ok (.ifCond .ne 45, 3) := by decide +kernel
theorem d_RC_next_72 : decode b_RC_next 72 = .ok (.iload 8, 2) := by decide +kernel
theorem d_RC_next_74 : decode b_RC_next 74 = .ok (.sipush 1460, 3) := by decide +kernel
theorem d_RC_next_77 : decode b_RC_next 77 = .ok (.if_icmp .ge 37, 3) := by decide +kernel
theorem d_RC_next_80 : decode b_RC_next 80 = .ok (.iinc 8 1, 3) := by decide +kernel
theorem d_RC_next_83 : decode b_RC_next 83 = .ok (.aload_n 0, 1) := by decide +kernel
theorem d_RC_next_84 : decode b_RC_next 84 = .ok (.getfield 16, 3) := by decide +kernel
theorem d_RC_next_87 : decode b_RC_next 87 = .ok (.iload 8, 2) := by decide +kernel
theorem d_RC_next_89 : decode b_RC_next 89 = .ok (.invokevirtual 99, 3) := by decide +kernel
theorem d_RC_next_92 : decode b_RC_next 92 = .ok (.aload 4, 2) := by decide +kernel
theorem d_RC_next_94 : decode b_RC_next 94 = .ok (.getfield 77, 3) := by decide +kernel
theorem d_RC_next_97 : decode b_RC_next 97 = .ok (.iload 8, 2) := by decide +kernel
theorem d_RC_next_99 : decode b_RC_next 99 = .ok (.iload 5, 2) := by decide +kernel
theorem d_RC_next_101 : decode b_RC_next 101 = .ok (.invokevirtual 94, 3) := by decide +kernel
theorem d_RC_next_104 : decode b_RC_next 104 = .ok (.ldc2_w 97, 3) := by decide +kernel
theorem d_RC_next_107 : decode b_RC_next 107 = .ok (.lxor, 1) := by decide +kernel
theorem d_RC_next_108 : decode b_RC_next 108 = .ok (.land, 1) := by decide +kernel
theorem d_RC_next_109 : decode b_RC_next 109 = .ok (.lstore 6, 2) := by decide +kernel
theorem d_RC_next_111 : decode b_RC_next 111 = .ok (.goto (-46), 3) := by decide +kernel
theorem d_RC_next_114 : decode b_RC_next 114 = .ok (.lload 6, 2) := by decide +kernel
theorem d_RC_next_116 : decode b_RC_next 116 = .ok (.lconst 0, 1) := by decide +kernel
theorem d_RC_next_117 : decode b_RC_next 117 = .ok (.lcmp, 1) := by decide +kernel
theorem d_RC_next_118 : decode b_RC_next 118 = .ok (.ifCond .ne 5, 3) := by decide +kernel
theorem d_RC_next_121 : decode b_RC_next 121 = .ok (.iconst (-1), 1) := by decide +kernel
theorem d_RC_next_122 : decode b_RC_next 122 = .ok (.ireturn, 1) := by decide +kernel
theorem d_RC_next_123 : decode b_RC_next 123 = .ok (.lload 6, 2) := by decide +kernel
theorem d_RC_next_125 : decode b_RC_next 125 = .ok (.invokestatic 103, 3) := by decide +kernel
theorem d_RC_next_128 : decode b_RC_next 128 = .ok (.istore 9, 2) := by decide +kernel
theorem d_RC_next_130 : decode b_RC_next 130 = .ok (.iload 8, 2) := by decide +kernel
theorem d_RC_next_132 : decode b_RC_next 132 = .ok (.iload_n 2, 1) := by decide +kernel
theorem d_RC_next_133 : decode b_RC_next 133 = .ok (.if_icmp .ne 13, 3) := by decide +kernel
theorem d_RC_next_136 : decode b_RC_next 136 = .ok (.iload 9, 2) := by decide +kernel
theorem d_RC_next_138 : decode b_RC_next 138 = .ok (.iload_n 3, 1) := by decide +kernel
theorem d_RC_next_139 : decode b_RC_next 139 = .ok (.if_icmp .ge 7, 3) := by decide +kernel
theorem d_RC_next_142 : decode b_RC_next 142 = .ok (.iconst 1, 1) := by decide +kernel
theorem d_RC_next_143 : decode b_RC_next 143 = .ok (.goto 4, 3) := by decide +kernel
theorem d_RC_next_146 : decode b_RC_next 146 = .ok (.iconst 0, 1) := by decide +kernel
theorem d_RC_next_147 : decode b_RC_next 147 = .ok (.istore 10, 2) := by decide +kernel
theorem d_RC_next_149 : decode b_RC_next 149 = .ok (.aload_n 0, 1) := by decide +kernel
theorem d_RC_next_150 : decode b_RC_next 150 = .ok (.getfield 16, 3) := by decide +kernel
theorem d_RC_next_153 : decode b_RC_next 153 = .ok (.iload 8, 2) := by decide +kernel
theorem d_RC_next_155 : decode b_RC_next 155 = .ok (.iload 9, 2) := by decide +kernel
theorem d_RC_next_157 : decode b_RC_next 157 = .ok (.iload 10, 2) := by decide +kernel
theorem d_RC_next_159 : decode b_RC_next 159 = .ok (.invokevirtual 107, 3) := by decide +kernel
theorem d_RC_next_162 : decode b_RC_next 162 = .ok (.aload_n 0, 1) := by decide +kernel
theorem d_RC_next_163 : decode b_RC_next 163 = .ok (.getfield 16, 3) := by decide +kernel
theorem d_RC_next_166 : decode b_RC_next 166 = .ok (.iload_n 2, 1) := by decide +kernel
theorem d_RC_next_167 : decode b_RC_next 167 = .ok (.iload_n 3, 1) := by decide +kernel
theorem d_RC_next_168 : decode b_RC_next 168 = .ok (.iconst 0, 1) := by decide +kernel
theorem d_RC_next_169 : decode b_RC_next 169 = .ok (.invokevirtual 107, 3) := by decide +kernel
theorem d_RC_next_172 : decode b_RC_next 172 = .ok (.isub, 1) := by decide +kernel
theorem d_RC_next_173 : decode b_RC_next 173 = .ok (.ireturn, 1) := by decide +kernel
