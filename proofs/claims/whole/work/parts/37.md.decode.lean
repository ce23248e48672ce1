theorem d_MD_next_0 : decode b_MD_next 0 = .ok (.aload_n 0, 1) := by decide +kernel
theorem d_MD_next_1 : decode b_MD_next 1 = .ok (.aload_n 0, 1) := by decide +kernel
theorem d_MD_next_2 : decode b_MD_next 2 = .ok (.iload_n 1, 1) := by decide +kernel
theorem d_MD_next_3 : decode b_MD_next 3 = .ok (.iload_n 2, 1) := by decide +kernel
theorem d_MD_next_4 : decode b_MD_next 4 = .ok (.iload_n 3, 1) := by decide +kernel
theorem d_MD_next_5 : decode b_MD_next 5 = .ok (.invokevirtual 180, 3) := by decide +kernel
theorem d_MD_next_8 : decode b_MD_next 8 = .ok (.invokevirtual 159, 3) := by decide +kernel
theorem d_MD_next_11 : decode b_MD_next 11 = .ok (.ifCond .eq 5, 3) := by decide +kernel
theorem d_MD_next_14 : decode b_MD_next 14 = .ok (.iconst 0, 1) := by decide +kernel
theorem d_MD_next_15 : decode b_MD_next 15 = .ok (.ireturn, 1) := by decide +kernel
theorem d_MD_next_16 : decode b_MD_next 16 = .ok (.aload_n 0, 1) := by decide +kernel
theorem d_MD_next_17 : decode b_MD_next 17 = .ok (.iload_n 2, 1) := by decide +kernel
theorem d_MD_next_18 : decode b_MD_next 18 = .ok (.iload_n 3, 1) := by decide +kernel
theorem d_MD_next_19 : decode b_MD_next 19 = .ok (.invokevirtual 183, 3) := by decide +kernel
theorem d_MD_next_22 : decode b_MD_next 22 = .ok (.ifCond .eq 5, 3) := by decide +kernel
theorem d_MD_next_25 : decode b_MD_next 25 = .ok (.iconst (-1), 1) := by decide +kernel
theorem d_MD_next_26 : decode b_MD_next 26 = .ok (.ireturn, 1) := by decide +kernel
theorem d_MD_next_27 : decode b_MD_next 27 = .ok (.aload_n 0, 1) := by decide +kernel
theorem d_MD_next_28 : decode b_MD_next 28 = .ok (.iload_n 1, 1) := by decide +kernel
theorem d_MD_next_29 : decode b_MD_next 29 = .ok (.iload_n 2, 1) := by decide +kernel
theorem d_MD_next_30 : decode b_MD_next 30 = .ok (.iload_n 3, 1) := by decide +kernel
theorem d_MD_next_31 : decode b_MD_next 31 = .ok (.invokevirtual 186, 3) := by decide +kernel
theorem d_MD_next_34 : decode b_MD_next 34 = .ok (.istore 4, 2) := by decide +kernel
theorem d_MD_next_36 : decode b_MD_next 36 = .ok (.iconst 0, 1) := by decide +kernel
theorem d_MD_next_37 : decode b_MD_next 37 = .ok (.istore 5, 2) := by decide +kernel
theorem d_MD_next_39 : decode b_MD_next 39 = .ok (.iload_n 2, 1) := by decide +kernel
theorem d_MD_next_40 : decode b_MD_next 40 = .ok (.istore 6, 2) := by decide +kernel
theorem d_MD_next_42 : decode b_MD_next 42 = .ok (.iload_n 3, 1) := by decide +kernel
theorem d_MD_next_43 : decode b_MD_next 43 = .ok (.istore 7, 2) := by decide +kernel
theorem d_MD_next_45 : decode b_MD_next 45 = .ok (.iconst 0, 1) := by decide +kernel
theorem d_MD_next_46 : decode b_MD_next 46 = .ok (.istore 8, 2) := by decide +kernel
theorem d_MD_next_48 : decode b_MD_next 48 = .ok (.iload 6, 2) := by decide +kernel
theorem d_MD_next_50 : decode b_MD_next 50 = .ok (.sipush 1461, 3) := by decide +kernel
theorem d_MD_next_53 : decode b_MD_next 53 = .ok (.if_icmp .ge 91, 3) := by decide +kernel
theorem d_MD_next_56 : decode b_MD_next 56 = .ok (.iload 7, 2) := by decide +kernel
theorem d_MD_next_58 : decode b_MD_next 58 = .ok (.iconst 5, 1) := by decide +kernel
theorem d_MD_next_59 : decode b_MD_next 59 = .ok (.if_icmp .ne 27, 3) := by decide +kernel
theorem d_MD_next_62 : decode b_MD_next 62 = .ok (.iload 8, 2) := by decide +kernel
theorem d_MD_next_64 : decode b_MD_next 64 = .ok (.ifCond .ne 22, 3) := by decide +kernel
theorem d_MD_next_67 : decode b_MD_next 67 = .ok (.aload_n 0, 1) := by decide +kernel
theorem d_MD_next_68 : decode b_MD_next 68 = .ok (.iload 6, 2) := by decide +kernel
theorem d_MD_next_70 : decode b_MD_next 70 = .ok (.iconst 5, 1) := by decide +kernel
theorem d_MD_next_71 : decode b_MD_next 71 = .ok (.invokevirtual 189, 3) := by decide +kernel
theorem d_MD_next_74 : decode b_MD_next 74 = .ok (.ifCond .eq 12, 3) := by decide +kernel
theorem d_MD_next_77 : decode b_MD_next 77 = .ok (.iconst 4, 1) := by decide +kernel
theorem d_MD_next_78 : decode b_MD_next 78 = .ok (.istore 7, 2) := by decide +kernel
theorem d_MD_next_80 : decode b_MD_next 80 = .ok (.iconst 1, 1) := by decide +kernel
theorem d_MD_next_81 : decode b_MD_next 81 = .ok (.istore 8, 2) := by decide +kernel
theorem d_MD_next_83 : decode b_MD_next 83 = .ok (.goto 22, 3) := by decide +kernel
theorem d_MD_next_86 : decode b_MD_next 86 = .ok (.iinc 7 1, 3) := by decide +kernel
theorem d_MD_next_89 : decode b_MD_next 89 = .ok (.iload 7, 2) := by decide +kernel
theorem d_MD_next_91 : decode b_MD_next 91 = .ok (.bipush 48, 2) := by decide +kernel
theorem d_MD_next_93 : decode b_MD_next 93 = .ok (.if_icmp .ne 12, 3) := by decide +kernel
theorem d_MD_next_96 : decode b_MD_next 96 = .ok (.iconst 0, 1) := by decide +kernel
theorem d_MD_next_97 : decode b_MD_next 97 = .ok (.istore 7, 2) := by decide +kernel
theorem d_MD_next_99 : decode b_MD_next 99 = .ok (.iinc 6 1, 3) := by decide +kernel
theorem d_MD_next_102 : decode b_MD_next 102 = .ok (.iconst 0, 1) := by decide +kernel
theorem d_MD_next_103 : decode b_MD_next 103 = .ok (.istore 8, 2) := by decide +kernel
theorem d_MD_next_105 : decode b_MD_next 105 = .ok (.iload 6, 2) := by decide +kernel
theorem d_MD_next_107 : decode b_MD_next 107 = .ok (.sipush 1461, 3) := by decide +kernel
theorem d_MD_next_110 : decode b_MD_next 110 = .ok (.if_icmp .ge (-62), 3) := by decide +kernel
theorem d_MD_next_113 : decode b_MD_next 113 = .ok (.aload_n 0, 1) := by decide +kernel
theorem d_MD_next_114 : decode b_MD_next 114 = .ok (.iload 6, 2) := by decide +kernel
theorem d_MD_next_116 : decode b_MD_next 116 = .ok (.iload 7, 2) := by decide +kernel
theorem d_MD_next_118 : decode b_MD_next 118 = .ok (.invokevirtual 183, 3) := by decide +kernel
theorem d_MD_next_121 : decode b_MD_next 121 = .ok (.ifCond .ne (-73), 3) := by decide +kernel
theorem d_MD_next_124 : decode b_MD_next 124 = .ok (.iinc 5 1, 3) := by decide +kernel
theorem d_MD_next_127 : decode b_MD_next 127 = .ok (.aload_n 0, 1) := by decide +kernel
theorem d_MD_next_128 : decode b_MD_next 128 = .ok (.iload_n 1, 1) := by decide +kernel
theorem d_MD_next_129 : decode b_MD_next 129 = .ok (.iload 6, 2) := by decide +kernel
theorem d_MD_next_131 : decode b_MD_next 131 = .ok (.iload 7, 2) := by decide +kernel
theorem d_MD_next_133 : decode b_MD_next 133 = .ok (.invokevirtual 186, 3) := by decide +kernel
theorem d_MD_next_136 : decode b_MD_next 136 = .ok (.iload 4, 2) := by decide +kernel
theorem d_MD_next_138 : decode b_MD_next 138 = .ok (.if_icmp .eq (-90), 3) := by decide +kernel
theorem d_MD_next_141 : decode b_MD_next 141 = .ok (.iload 5, 2) := by decide +kernel
theorem d_MD_next_143 : decode b_MD_next 143 = .ok (.ireturn, 1) := by decide +kernel
theorem d_MD_next_144 : decode b_MD_next 144 = .ok (.iconst (-1), 1) := by decide +kernel
theorem d_MD_next_145 : decode b_MD_next 145 = .ok (.ireturn, 1) := by decide +kernel
theorem d_MD_dead_0 : decode b_MD_dead 0 = .ok (.aload_n 0, 1) := by decide +kernel
theorem d_MD_dead_1 : decode b_MD_dead 1 = .ok (.aload_n 0, 1) := by decide +kernel
theorem d_MD_dead_2 : decode b_MD_dead 2 = .ok (.iload_n 1, 1) := by decide +kernel
theorem d_MD_dead_3 : decode b_MD_dead 3 = .ok (.iconst 0, 1) := by decide +kernel
theorem d_MD_dead_4 : decode b_MD_dead 4 = .ok (.iconst 0, 1) := by decide +kernel
theorem d_MD_dead_5 : decode b_MD_dead 5 = .ok (.invokevirtual 180, 3) := by decide +kernel
theorem d_MD_dead_8 : decode b_MD_dead 8 = .ok (.invokevirtual 159, 3) := by decide +kernel
theorem d_MD_dead_11 : decode b_MD_dead 11 = .ok (.ifCond .eq 5, 3) := by decide +kernel
theorem d_MD_dead_14 : decode b_MD_dead 14 = .ok (.iconst 0, 1) := by decide +kernel
theorem d_MD_dead_15 : decode b_MD_dead 15 = .ok (.ireturn, 1) := by decide +kernel
theorem d_MD_dead_16 : decode b_MD_dead 16 = .ok (.iconst 0, 1) := by decide +kernel
theorem d_MD_dead_17 : decode b_MD_dead 17 = .ok (.istore_n 3, 1) := by decide +kernel
theorem d_MD_dead_18 : decode b_MD_dead 18 = .ok (.iconst 1, 1) := by decide +kernel
theorem d_MD_dead_19 : decode b_MD_dead 19 = .ok (.aload_n 0, 1) := by decide +kernel
theorem d_MD_dead_20 : decode b_MD_dead 20 = .ok (.getfield 19, 3) := by decide +kernel
theorem d_MD_dead_23 : decode b_MD_dead 23 = .ok (.iload_n 1, 1) := by decide +kernel
theorem d_MD_dead_24 : decode b_MD_dead 24 = .ok (.iaload, 1) := by decide +kernel
theorem d_MD_dead_25 : decode b_MD_dead 25 = .ok (.ishl, 1) := by decide +kernel
theorem d_MD_dead_26 : decode b_MD_dead 26 = .ok (.iconst 1, 1) := by decide +kernel
theorem d_MD_dead_27 : decode b_MD_dead 27 = .ok (.isub, 1) := by decide +kernel
theorem d_MD_dead_28 : decode b_MD_dead 28 = .ok (.istore 4, 2) := by decide +kernel
theorem d_MD_dead_30 : decode b_MD_dead 30 = .ok (.iconst 0, 1) := by decide +kernel
theorem d_MD_dead_31 : decode b_MD_dead 31 = .ok (.istore 5, 2) := by decide +kernel
theorem d_MD_dead_33 : decode b_MD_dead 33 = .ok (.iload 5, 2) := by decide +kernel
theorem d_MD_dead_35 : decode b_MD_dead 35 = .ok (.sipush 1461, 3) := by decide +kernel
theorem d_MD_dead_38 : decode b_MD_dead 38 = .ok (.if_icmp .ge 75, 3) := by decide +kernel
theorem d_MD_dead_41 : decode b_MD_dead 41 = .ok (.iload_n 3, 1) := by decide +kernel
theorem d_MD_dead_42 : decode b_MD_dead 42 = .ok (.iload 4, 2) := by decide +kernel
theorem d_MD_dead_44 : decode b_MD_dead 44 = .ok (.if_icmp .eq 69, 3) := by decide +kernel
theorem d_MD_dead_47 : decode b_MD_dead 47 = .ok (.iconst 0, 1) := by decide +kernel
theorem d_MD_dead_48 : decode b_MD_dead 48 = .ok (.istore 6, 2) := by decide +kernel
theorem d_MD_dead_50 : decode b_MD_dead 50 = .ok (.iload 6, 2) := by decide +kernel
theorem d_MD_dead_52 : decode b_MD_dead 52 = .ok (.bipush 48, 2) := by decide +kernel
theorem d_MD_dead_54 : decode b_MD_dead 54 = .ok (.if_icmp .ge 53, 3) := by decide +kernel
theorem d_MD_dead_57 : decode b_MD_dead 57 = .ok (.aload_n 0, 1) := by decide +kernel
theorem d_MD_dead_58 : decode b_MD_dead 58 = .ok (.iload 5, 2) := by decide +kernel
theorem d_MD_dead_60 : decode b_MD_dead 60 = .ok (.iload 6, 2) := by decide +kernel
theorem d_MD_dead_62 : decode b_MD_dead 62 = .ok (.invokevirtual 183, 3) := by decide +kernel
theorem d_MD_dead_65 : decode b_MD_dead 65 = .ok (.ifCond .eq 7, 3) := by decide +kernel
theorem d_MD_dead_68 : decode b_MD_dead 68 = .ok (.iconst 0, 1) := by decide +kernel
theorem d_MD_dead_69 : decode b_MD_dead 69 = .ok (.goto 12, 3) := by decide +kernel
theorem d_MD_dead_72 : decode b_MD_dead 72 = .ok (.aload_n 0, 1) := by decide +kernel
theorem d_MD_dead_73 : decode b_MD_dead 73 = .ok (.iload_n 1, 1) := by decide +kernel
theorem d_MD_dead_74 : decode b_MD_dead 74 = .ok (.iload 5, 2) := by decide +kernel
theorem d_MD_dead_76 : decode b_MD_dead 76 = .ok (.iload 6, 2) := by decide +kernel
theorem d_MD_dead_78 : decode b_MD_dead 78 = .ok (.invokevirtual 177, 3) := by decide +kernel
theorem d_MD_dead_81 : decode b_MD_dead 81 = .ok (.istore 7, 2) := by decide +kernel
theorem d_MD_dead_83 : decode b_MD_dead 83 = .ok (.iload 7, 2) := by decide +kernel
theorem d_MD_dead_85 : decode b_MD_dead 85 = .ok (.ifCond .le 14, 3) := by decide +kernel
theorem d_MD_dead_88 : decode b_MD_dead 88 = .ok (.iload_n 3, 1) := by decide +kernel
theorem d_MD_dead_89 : decode b_MD_dead 89 = .ok (.iconst 1, 1) := by decide +kernel
theorem d_MD_dead_90 : decode b_MD_dead 90 = .ok (.iload 7, 2) := by decide +kernel
theorem d_MD_dead_92 : decode b_MD_dead 92 = .ok (.iconst 1, 1) := by decide +kernel
theorem d_MD_dead_93 : decode b_MD_dead 93 = .ok (.isub, 1) := by decide +kernel
theorem d_MD_dead_94 : decode b_MD_dead 94 = .ok (.ishl, 1) := by decide +kernel
theorem d_MD_dead_95 : decode b_MD_dead 95 = .ok (.ior, 1) := by decide +kernel
theorem d_MD_dead_96 : decode b_MD_dead 96 = .ok (.goto 4, 3) := by decide +kernel
theorem d_MD_dead_99 : decode b_MD_dead 99 = .ok (.iload_n 3, 1) := by decide +kernel
theorem d_MD_dead_100 : decode b_MD_dead 100 = .ok (.istore_n 3, 1) := by decide +kernel
theorem d_MD_dead_101 : decode b_MD_dead 101 = .ok (.iinc 6 1, 3) := by decide +kernel
theorem d_MD_dead_104 : decode b_MD_dead 104 = .ok (.goto (-54), 3) := by decide +kernel
theorem d_MD_dead_107 : decode b_MD_dead 107 = .ok (.iinc 5 1, 3) := by decide +kernel
theorem d_MD_dead_110 : decode b_MD_dead 110 = .ok (.goto (-77), 3) := by decide +kernel
theorem d_MD_dead_113 : decode b_MD_dead 113 = .ok (.iconst 0, 1) := by decide +kernel
theorem d_MD_dead_114 : decode b_MD_dead 114 = .ok (.istore 5, 2) := by decide +kernel
theorem d_MD_dead_116 : decode b_MD_dead 116 = .ok (.iconst 0, 1) := by decide +kernel
theorem d_MD_dead_117 : decode b_MD_dead 117 = .ok (.istore 6, 2) := by decide +kernel
theorem d_MD_dead_119 : decode b_MD_dead 119 = .ok (.iload 6, 2) := by decide +kernel
theorem d_MD_dead_121 : decode b_MD_dead 121 = .ok (.aload_n 0, 1) := by decide +kernel
theorem d_MD_dead_122 : decode b_MD_dead 122 = .ok (.getfield 19, 3) := by decide +kernel
theorem d_MD_dead_125 : decode b_MD_dead 125 = .ok (.iload_n 1, 1) := by decide +kernel
theorem d_MD_dead_126 : decode b_MD_dead 126 = .ok (.iaload, 1) := by decide +kernel
theorem d_MD_dead_127 : decode b_MD_dead 127 = .ok (.if_icmp .ge 32, 3) := by decide +kernel
theorem d_MD_dead_130 : decode b_MD_dead 130 = .ok (.iload_n 3, 1) := by decide +kernel
theorem d_MD_dead_131 : decode b_MD_dead 131 = .ok (.iload 6, 2) := by decide +kernel
theorem d_MD_dead_133 : decode b_MD_dead 133 = .ok (.ishr, 1) := by decide +kernel
theorem d_MD_dead_134 : decode b_MD_dead 134 = .ok (.iconst 1, 1) := by decide +kernel
theorem d_MD_dead_135 : decode b_MD_dead 135 = .ok (.iand, 1) := by decide +kernel
theorem d_MD_dead_136 : decode b_MD_dead 136 = .ok (.ifCond .ne 17, 3) := by decide +kernel
theorem d_MD_dead_139 : decode b_MD_dead 139 = .ok (.iload 5, 2) := by decide +kernel
theorem d_MD_dead_141 : decode b_MD_dead 141 = .ok (.iload_n 2, 1) := by decide +kernel
theorem d_MD_dead_142 : decode b_MD_dead 142 = .ok (.if_icmp .ne 8, 3) := by decide +kernel
theorem d_MD_dead_145 : decode b_MD_dead 145 = .ok (.iload 6, 2) := by decide +kernel
theorem d_MD_dead_147 : decode b_MD_dead 147 = .ok (.iconst 1, 1) := by decide +kernel
theorem d_MD_dead_148 : decode b_MD_dead 148 = .ok (.iadd, 1) := by decide +kernel
theorem d_MD_dead_149 : decode b_MD_dead 149 = .ok (.ireturn, 1) := by decide +kernel
theorem d_MD_dead_150 : decode b_MD_dead 150 = .ok (.iinc 5 1, 3) := by decide +kernel
theorem d_MD_dead_153 : decode b_MD_dead 153 = .ok (.iinc 6 1, 3) := by decide +kernel
theorem d_MD_dead_156 : decode b_MD_dead 156 = .ok (.goto (-37), 3) := by decide +kernel
theorem d_MD_dead_159 : decode b_MD_dead 159 = .ok (.iconst (-1), 1) := by decide +kernel
theorem d_MD_dead_160 : decode b_MD_dead 160 = .ok (.ireturn, 1) := by decide +kernel
theorem d_MD_run_0 : decode b_MD_run 0 = .ok (.aload_n 0, 1) := by decide +kernel
theorem d_MD_run_1 : decode b_MD_run 1 = .ok (.aload_n 0, 1) := by decide +kernel
theorem d_MD_run_2 : decode b_MD_run 2 = .ok (.iload_n 1, 1) := by decide +kernel
theorem d_MD_run_3 : decode b_MD_run 3 = .ok (.iload_n 2, 1) := by decide +kernel
theorem d_MD_run_4 : decode b_MD_run 4 = .ok (.iconst 0, 1) := by decide +kernel
theorem d_MD_run_5 : decode b_MD_run 5 = .ok (.invokevirtual 180, 3) := by decide +kernel
theorem d_MD_run_8 : decode b_MD_run 8 = .ok (.invokevirtual 159, 3) := by decide +kernel
theorem d_MD_run_11 : decode b_MD_run 11 = .ok (.ifCond .eq 5, 3) := by decide +kernel
theorem d_MD_run_14 : decode b_MD_run 14 = .ok (.iconst 0, 1) := by decide +kernel
theorem d_MD_run_15 : decode b_MD_run 15 = .ok (.ireturn, 1) := by decide +kernel
theorem d_MD_run_16 : decode b_MD_run 16 = .ok (.iconst (-1), 1) := by decide +kernel
theorem d_MD_run_17 : decode b_MD_run 17 = .ok (.istore 5, 2) := by decide +kernel
theorem d_MD_run_19 : decode b_MD_run 19 = .ok (.iconst (-1), 1) := by decide +kernel
theorem d_MD_run_20 : decode b_MD_run 20 = .ok (.istore 6, 2) := by decide +kernel
theorem d_MD_run_22 : decode b_MD_run 22 = .ok (.iconst (-1), 1) := by decide +kernel
theorem d_MD_run_23 : decode b_MD_run 23 = .ok (.istore 7, 2) := by decide +kernel
theorem d_MD_run_25 : decode b_MD_run 25 = .ok (.iconst 0, 1) := by decide +kernel
theorem d_MD_run_26 : decode b_MD_run 26 = .ok (.istore 8, 2) := by decide +kernel
theorem d_MD_run_28 : decode b_MD_run 28 = .ok (.iconst 0, 1) := by decide +kernel
theorem d_MD_run_29 : decode b_MD_run 29 = .ok (.istore 9, 2) := by decide +kernel
theorem d_MD_run_31 : decode b_MD_run 31 = .ok (.iload 9, 2) := by decide +kernel
theorem d_MD_run_33 : decode b_MD_run 33 = .ok (.bipush 48, 2) := by decide +kernel
theorem d_MD_run_35 : decode b_MD_run 35 = .ok (.if_icmp .ge 96, 3) := by decide +kernel
theorem d_MD_run_38 : decode b_MD_run 38 = .ok (.aload_n 0, 1) := by decide +kernel
theorem d_MD_run_39 : decode b_MD_run 39 = .ok (.iload_n 2, 1) := by decide +kernel
theorem d_MD_run_40 : decode b_MD_run 40 = .ok (.iload 9, 2) := by decide +kernel
theorem d_MD_run_42 : decode b_MD_run 42 = .ok (.invokevirtual 183, 3) := by decide +kernel
theorem d_MD_run_45 : decode b_MD_run 45 = .ok (.ifCond .ne 80, 3) := by decide +kernel
theorem d_MD_run_48 : decode b_MD_run 48 = .ok (.aload_n 0, 1) := by decide +kernel
theorem d_MD_run_49 : decode b_MD_run 49 = .ok (.iload_n 1, 1) := by decide +kernel
theorem d_MD_run_50 : decode b_MD_run 50 = .ok (.iload_n 2, 1) := by decide +kernel
theorem d_MD_run_51 : decode b_MD_run 51 = .ok (.iload 9, 2) := by decide +kernel
theorem d_MD_run_53 : decode b_MD_run 53 = .ok (.invokevirtual 186, 3) := by decide +kernel
theorem d_MD_run_56 : decode b_MD_run 56 = .ok (.istore 10, 2) := by decide +kernel
theorem d_MD_run_58 : decode b_MD_run 58 = .ok (.iload 10, 2) := by decide +kernel
theorem d_MD_run_60 : decode b_MD_run 60 = .ok (.iload 8, 2) := by decide +kernel
theorem d_MD_run_62 : decode b_MD_run 62 = .ok (.if_icmp .eq 43, 3) := by decide +kernel
theorem d_MD_run_65 : decode b_MD_run 65 = .ok (.iload 10, 2) := by decide +kernel
theorem d_MD_run_67 : decode b_MD_run 67 = .ok (.ifCond .le 10, 3) := by decide +kernel
theorem d_MD_run_70 : decode b_MD_run 70 = .ok (.iload 5, 2) := by decide +kernel
theorem d_MD_run_72 : decode b_MD_run 72 = .ok (.iconst 1, 1) := by decide +kernel
theorem d_MD_run_73 : decode b_MD_run 73 = .ok (.iadd, 1) := by decide +kernel
theorem d_MD_run_74 : decode b_MD_run 74 = .ok (.goto 5, 3) := by decide +kernel
theorem d_MD_run_77 : decode b_MD_run 77 = .ok (.iload 5, 2) := by decide +kernel
theorem d_MD_run_79 : decode b_MD_run 79 = .ok (.istore 5, 2) := by decide +kernel
theorem d_MD_run_81 : decode b_MD_run 81 = .ok (.iload 10, 2) := by decide +kernel
theorem d_MD_run_83 : decode b_MD_run 83 = .ok (.ifCond .le 14, 3) := by decide +kernel
theorem d_MD_run_86 : decode b_MD_run 86 = .ok (.iload 5, 2) := by decide +kernel
theorem d_MD_run_88 : decode b_MD_run 88 = .ok (.iload_n 3, 1) := by decide +kernel
theorem d_MD_run_89 : decode b_MD_run 89 = .ok (.if_icmp .ne 8, 3) := by decide +kernel
theorem d_MD_run_92 : decode b_MD_run 92 = .ok (.iload 9, 2) := by decide +kernel
theorem d_MD_run_94 : decode b_MD_run 94 = .ok (.goto 5, 3) := by decide +kernel
theorem d_MD_run_97 : decode b_MD_run 97 = .ok (.iload 6, 2) := by decide +kernel
theorem d_MD_run_99 : decode b_MD_run 99 = .ok (.istore 6, 2) := by decide +kernel
theorem d_MD_run_101 : decode b_MD_run 101 = .ok (.iload 10, 2) := by decide +kernel
theorem d_MD_run_103 : decode b_MD_run 103 = .ok (.istore 8, 2) := by decide +kernel
theorem d_MD_run_105 : decode b_MD_run 105 = .ok (.iload 10, 2) := by decide +kernel
theorem d_MD_run_107 : decode b_MD_run 107 = .ok (.ifCond .le 14, 3) := by decide +kernel
theorem d_MD_run_110 : decode b_MD_run 110 = .ok (.iload 5, 2) := by decide +kernel
theorem d_MD_run_112 : decode b_MD_run 112 = .ok (.iload_n 3, 1) := by decide +kernel
theorem d_MD_run_113 : decode b_MD_run 113 = .ok (.if_icmp .ne 8, 3) := by decide +kernel
theorem d_MD_run_116 : decode b_MD_run 116 = .ok (.iload 9, 2) := by decide +kernel
theorem d_MD_run_118 : decode b_MD_run 118 = .ok (.goto 5, 3) := by decide +kernel
theorem d_MD_run_121 : decode b_MD_run 121 = .ok (.iload 7, 2) := by decide +kernel
theorem d_MD_run_123 : decode b_MD_run 123 = .ok (.istore 7, 2) := by decide +kernel
theorem d_MD_run_125 : decode b_MD_run 125 = .ok (.iinc 9 1, 3) := by decide +kernel
theorem d_MD_run_128 : decode b_MD_run 128 = .ok (.goto (-97), 3) := by decide +kernel
theorem d_MD_run_131 : decode b_MD_run 131 = .ok (.iload 6, 2) := by decide +kernel
theorem d_MD_run_133 : decode b_MD_run 133 = .ok (.iconst (-1), 1) := by decide +kernel
theorem d_MD_run_134 : decode b_MD_run 134 = .ok (.if_icmp .eq 14, 3) := by decide +kernel
theorem d_MD_run_137 : decode b_MD_run 137 = .ok (.iload 4, 2) := by decide +kernel
theorem d_MD_run_139 : decode b_MD_run 139 = .ok (.ifCond .lt 9, 3) := by decide +kernel
theorem d_MD_run_142 : decode b_MD_run 142 = .ok (.iload 4, 2) := by decide +kernel
theorem d_MD_run_144 : decode b_MD_run 144 = .ok (.iconst 2, 1) := by decide +kernel
theorem d_MD_run_145 : decode b_MD_run 145 = .ok (.if_icmp .le 5, 3) := by decide +kernel
theorem d_MD_run_148 : decode b_MD_run 148 = .ok (.iconst (-1), 1) := by decide +kernel
theorem d_MD_run_149 : decode b_MD_run 149 = .ok (.ireturn, 1) := by decide +kernel
theorem d_MD_run_150 : decode b_MD_run 150 = .ok (.iload 4, 2) := by decide +kernel
theorem d_MD_run_152 : decode b_MD_run 152 = .ok (.ifCond .ne 8, 3) := by decide +kernel
theorem d_MD_run_155 : decode b_MD_run 155 = .ok (.iload 6, 2) := by decide +kernel
theorem d_MD_run_157 : decode b_MD_run 157 = .ok (.goto 22, 3) := by decide +kernel
theorem d_MD_run_160 : decode b_MD_run 160 = .ok (.iload 4, 2) := by decide +kernel
theorem d_MD_run_162 : decode b_MD_run 162 = .ok (.iconst 1, 1) := by decide +kernel
theorem d_MD_run_163 : decode b_MD_run 163 = .ok (.if_icmp .ne 8, 3) := by decide +kernel
theorem d_MD_run_166 : decode b_MD_run 166 = .ok (.iload 7, 2) := by decide +kernel
theorem d_MD_run_168 : decode b_MD_run 168 = .ok (.goto 11, 3) := by decide +kernel
theorem d_MD_run_171 : decode b_MD_run 171 = .ok (.aload_n 0, 1) := by decide +kernel
theorem d_MD_run_172 : decode b_MD_run 172 = .ok (.iload_n 1, 1) := by decide +kernel
theorem d_MD_run_173 : decode b_MD_run 173 = .ok (.iload_n 2, 1) := by decide +kernel
theorem d_MD_run_174 : decode b_MD_run 174 = .ok (.iload 6, 2) := by decide +kernel
theorem d_MD_run_176 : decode b_MD_run 176 = .ok (.invokevirtual 186, 3) := by decide +kernel
theorem d_MD_run_179 : decode b_MD_run 179 = .ok (.ireturn, 1) := by decide +kernel
