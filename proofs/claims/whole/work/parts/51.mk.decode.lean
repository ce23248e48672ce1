theorem d_MD_take_0 : decode b_MD_take 0 = .ok (.iload_n 1, 1) := by decide +kernel
theorem d_MD_take_1 : decode b_MD_take 1 = .ok (.tableswitch 141 0 4 #[35, 42, 60, 84, 133], 35) := by decide +kernel
theorem d_MD_take_36 : decode b_MD_take 36 = .ok (.aload_n 0, 1) := by decide +kernel
theorem d_MD_take_37 : decode b_MD_take 37 = .ok (.iload 4, 2) := by decide +kernel
theorem d_MD_take_39 : decode b_MD_take 39 = .ok (.invokevirtual 103, 3) := by decide +kernel
theorem d_MD_take_42 : decode b_MD_take 42 = .ok (.ireturn, 1) := by decide +kernel
theorem d_MD_take_43 : decode b_MD_take 43 = .ok (.iload 4, 2) := by decide +kernel
theorem d_MD_take_45 : decode b_MD_take 45 = .ok (.bipush 64, 2) := by decide +kernel
theorem d_MD_take_47 : decode b_MD_take 47 = .ok (.if_icmp .eq 5, 3) := by decide +kernel
theorem d_MD_take_50 : decode b_MD_take 50 = .ok (.iconst 2, 1) := by decide +kernel
theorem d_MD_take_51 : decode b_MD_take 51 = .ok (.ireturn, 1) := by decide +kernel
theorem d_MD_take_52 : decode b_MD_take 52 = .ok (.aload_n 0, 1) := by decide +kernel
theorem d_MD_take_53 : decode b_MD_take 53 = .ok (.iconst 4, 1) := by decide +kernel
theorem d_MD_take_54 : decode b_MD_take 54 = .ok (.iconst 0, 1) := by decide +kernel
theorem d_MD_take_55 : decode b_MD_take 55 = .ok (.iconst 0, 1) := by decide +kernel
theorem d_MD_take_56 : decode b_MD_take 56 = .ok (.invokevirtual 106, 3) := by decide +kernel
theorem d_MD_take_59 : decode b_MD_take 59 = .ok (.iconst 1, 1) := by decide +kernel
theorem d_MD_take_60 : decode b_MD_take 60 = .ok (.ireturn, 1) := by decide +kernel
theorem d_MD_take_61 : decode b_MD_take 61 = .ok (.iload 4, 2) := by decide +kernel
theorem d_MD_take_63 : decode b_MD_take 63 = .ok (.ifCond .eq 10, 3) := by decide +kernel
theorem d_MD_take_66 : decode b_MD_take 66 = .ok (.iload 4, 2) := by decide +kernel
theorem d_MD_take_68 : decode b_MD_take 68 = .ok (.bipush 59, 2) := by decide +kernel
theorem d_MD_take_70 : decode b_MD_take 70 = .ok (.if_icmp .ne 5, 3) := by decide +kernel
theorem d_MD_take_73 : decode b_MD_take 73 = .ok (.iconst 2, 1) := by decide +kernel
theorem d_MD_take_74 : decode b_MD_take 74 = .ok (.ireturn, 1) := by decide +kernel
theorem d_MD_take_75 : decode b_MD_take 75 = .ok (.aload_n 0, 1) := by decide +kernel
theorem d_MD_take_76 : decode b_MD_take 76 = .ok (.bipush 10, 2) := by decide +kernel
theorem d_MD_take_78 : decode b_MD_take 78 = .ok (.iconst 1, 1) := by decide +kernel
theorem d_MD_take_79 : decode b_MD_take 79 = .ok (.iconst 0, 1) := by decide +kernel
theorem d_MD_take_80 : decode b_MD_take 80 = .ok (.invokevirtual 106, 3) := by decide +kernel
theorem d_MD_take_83 : decode b_MD_take 83 = .ok (.iconst 2, 1) := by decide +kernel
theorem d_MD_take_84 : decode b_MD_take 84 = .ok (.ireturn, 1) := by decide +kernel
theorem d_MD_take_85 : decode b_MD_take 85 = .ok (.aload_n 0, 1) := by decide +kernel
theorem d_MD_take_86 : decode b_MD_take 86 = .ok (.getfield 52, 3) := by decide +kernel
theorem d_MD_take_89 : decode b_MD_take 89 = .ok (.aload_n 0, 1) := by decide +kernel
theorem d_MD_take_90 : decode b_MD_take 90 = .ok (.getfield 110, 3) := by decide +kernel
theorem d_MD_take_93 : decode b_MD_take 93 = .ok (.aload_n 0, 1) := by decide +kernel
theorem d_MD_take_94 : decode b_MD_take 94 = .ok (.getfield 93, 3) := by decide +kernel
theorem d_MD_take_97 : decode b_MD_take 97 = .ok (.iastore, 1) := by decide +kernel
theorem d_MD_take_98 : decode b_MD_take 98 = .ok (.iload 4, 2) := by decide +kernel
theorem d_MD_take_100 : decode b_MD_take 100 = .ok (.ifCond .ne 5, 3) := by decide +kernel
theorem d_MD_take_103 : decode b_MD_take 103 = .ok (.iconst 2, 1) := by decide +kernel
theorem d_MD_take_104 : decode b_MD_take 104 = .ok (.ireturn, 1) := by decide +kernel
theorem d_MD_take_105 : decode b_MD_take 105 = .ok (.aload_n 0, 1) := by decide +kernel
theorem d_MD_take_106 : decode b_MD_take 106 = .ok (.iconst 0, 1) := by decide +kernel
theorem d_MD_take_107 : decode b_MD_take 107 = .ok (.iconst 0, 1) := by decide +kernel
theorem d_MD_take_108 : decode b_MD_take 108 = .ok (.iconst 0, 1) := by decide +kernel
theorem d_MD_take_109 : decode b_MD_take 109 = .ok (.invokevirtual 106, 3) := by decide +kernel
theorem d_MD_take_112 : decode b_MD_take 112 = .ok (.iload 4, 2) := by decide +kernel
theorem d_MD_take_114 : decode b_MD_take 114 = .ok (.bipush 59, 2) := by decide +kernel
theorem d_MD_take_116 : decode b_MD_take 116 = .ok (.if_icmp .ne 16, 3) := by decide +kernel
theorem d_MD_take_119 : decode b_MD_take 119 = .ok (.aload_n 0, 1) := by decide +kernel
theorem d_MD_take_120 : decode b_MD_take 120 = .ok (.getfield 110, 3) := by decide +kernel
theorem d_MD_take_123 : decode b_MD_take 123 = .ok (.bipush 12, 2) := by decide +kernel
theorem d_MD_take_125 : decode b_MD_take 125 = .ok (.if_icmp .ge 7, 3) := by decide +kernel
theorem d_MD_take_128 : decode b_MD_take 128 = .ok (.iconst 1, 1) := by decide +kernel
theorem d_MD_take_129 : decode b_MD_take 129 = .ok (.goto 4, 3) := by decide +kernel
theorem d_MD_take_132 : decode b_MD_take 132 = .ok (.iconst 0, 1) := by decide +kernel
theorem d_MD_take_133 : decode b_MD_take 133 = .ok (.ireturn, 1) := by decide +kernel
theorem d_MD_take_134 : decode b_MD_take 134 = .ok (.aload_n 0, 1) := by decide +kernel
theorem d_MD_take_135 : decode b_MD_take 135 = .ok (.iload_n 3, 1) := by decide +kernel
theorem d_MD_take_136 : decode b_MD_take 136 = .ok (.iload 4, 2) := by decide +kernel
theorem d_MD_take_138 : decode b_MD_take 138 = .ok (.invokevirtual 113, 3) := by decide +kernel
theorem d_MD_take_141 : decode b_MD_take 141 = .ok (.ireturn, 1) := by decide +kernel
theorem d_MD_take_142 : decode b_MD_take 142 = .ok (.iload_n 1, 1) := by decide +kernel
theorem d_MD_take_143 : decode b_MD_take 143 = .ok (.bipush 20, 2) := by decide +kernel
theorem d_MD_take_145 : decode b_MD_take 145 = .ok (.if_icmp .ge 14, 3) := by decide +kernel
theorem d_MD_take_148 : decode b_MD_take 148 = .ok (.aload_n 0, 1) := by decide +kernel
theorem d_MD_take_149 : decode b_MD_take 149 = .ok (.iload_n 1, 1) := by decide +kernel
theorem d_MD_take_150 : decode b_MD_take 150 = .ok (.iload_n 2, 1) := by decide +kernel
theorem d_MD_take_151 : decode b_MD_take 151 = .ok (.iload 4, 2) := by decide +kernel
theorem d_MD_take_153 : decode b_MD_take 153 = .ok (.invokevirtual 116, 3) := by decide +kernel
theorem d_MD_take_156 : decode b_MD_take 156 = .ok (.goto 12, 3) := by decide +kernel
theorem d_MD_take_159 : decode b_MD_take 159 = .ok (.aload_n 0, 1) := by decide +kernel
theorem d_MD_take_160 : decode b_MD_take 160 = .ok (.iload_n 1, 1) := by decide +kernel
theorem d_MD_take_161 : decode b_MD_take 161 = .ok (.iload_n 2, 1) := by decide +kernel
theorem d_MD_take_162 : decode b_MD_take 162 = .ok (.iload_n 3, 1) := by decide +kernel
theorem d_MD_take_163 : decode b_MD_take 163 = .ok (.iload 4, 2) := by decide +kernel
theorem d_MD_take_165 : decode b_MD_take 165 = .ok (.invokevirtual 120, 3) := by decide +kernel
theorem d_MD_take_168 : decode b_MD_take 168 = .ok (.ireturn, 1) := by decide +kernel
