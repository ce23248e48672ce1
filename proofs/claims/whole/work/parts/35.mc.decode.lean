theorem d_MD_total_0 : decode b_MD_total 0 = .ok (.iload_n 1, 1) := by decide +kernel
theorem d_MD_total_1 : decode b_MD_total 1 = .ok (.ifCond .lt 28, 3) := by decide +kernel
theorem d_MD_total_4 : decode b_MD_total 4 = .ok (.iload_n 1, 1) := by decide +kernel
theorem d_MD_total_5 : decode b_MD_total 5 = .ok (.iconst 2, 1) := by decide +kernel
theorem d_MD_total_6 : decode b_MD_total 6 = .ok (.if_icmp .gt 23, 3) := by decide +kernel
theorem d_MD_total_9 : decode b_MD_total 9 = .ok (.iload_n 2, 1) := by decide +kernel
theorem d_MD_total_10 : decode b_MD_total 10 = .ok (.ifCond .lt 19, 3) := by decide +kernel
theorem d_MD_total_13 : decode b_MD_total 13 = .ok (.iload_n 2, 1) := by decide +kernel
theorem d_MD_total_14 : decode b_MD_total 14 = .ok (.iload_n 3, 1) := by decide +kernel
theorem d_MD_total_15 : decode b_MD_total 15 = .ok (.if_icmp .gt 14, 3) := by decide +kernel
theorem d_MD_total_18 : decode b_MD_total 18 = .ok (.iload_n 3, 1) := by decide +kernel
theorem d_MD_total_19 : decode b_MD_total 19 = .ok (.sipush 1461, 3) := by decide +kernel
theorem d_MD_total_22 : decode b_MD_total 22 = .ok (.if_icmp .gt 7, 3) := by decide +kernel
theorem d_MD_total_25 : decode b_MD_total 25 = .ok (.iconst 1, 1) := by decide +kernel
theorem d_MD_total_26 : decode b_MD_total 26 = .ok (.goto 4, 3) := by decide +kernel
theorem d_MD_total_29 : decode b_MD_total 29 = .ok (.iconst 0, 1) := by decide +kernel
theorem d_MD_total_30 : decode b_MD_total 30 = .ok (.istore 5, 2) := by decide +kernel
theorem d_MD_total_32 : decode b_MD_total 32 = .ok (.aload_n 0, 1) := by decide +kernel
theorem d_MD_total_33 : decode b_MD_total 33 = .ok (.iload 5, 2) := by decide +kernel
theorem d_MD_total_35 : decode b_MD_total 35 = .ok (.ifCond .ne 7, 3) := by decide +kernel
theorem d_MD_total_38 : decode b_MD_total 38 = .ok (.iconst 1, 1) := by decide +kernel
theorem d_MD_total_39 : decode b_MD_total 39 = .ok (.goto 17, 3) := by decide +kernel
theorem d_MD_total_42 : decode b_MD_total 42 = .ok (.aload_n 0, 1) := by decide +kernel
theorem d_MD_total_43 : decode b_MD_total 43 = .ok (.getfield 19, 3) := by decide +kernel
theorem d_MD_total_46 : decode b_MD_total 46 = .ok (.iload_n 1, 1) := by decide +kernel
theorem d_MD_total_47 : decode b_MD_total 47 = .ok (.iaload, 1) := by decide +kernel
theorem d_MD_total_48 : decode b_MD_total 48 = .ok (.ifCond .ne 7, 3) := by decide +kernel
theorem d_MD_total_51 : decode b_MD_total 51 = .ok (.iconst 2, 1) := by decide +kernel
theorem d_MD_total_52 : decode b_MD_total 52 = .ok (.goto 4, 3) := by decide +kernel
theorem d_MD_total_55 : decode b_MD_total 55 = .ok (.iconst 0, 1) := by decide +kernel
theorem d_MD_total_56 : decode b_MD_total 56 = .ok (.invokevirtual 159, 3) := by decide +kernel
theorem d_MD_total_59 : decode b_MD_total 59 = .ok (.ifCond .eq 5, 3) := by decide +kernel
theorem d_MD_total_62 : decode b_MD_total 62 = .ok (.iconst 0, 1) := by decide +kernel
theorem d_MD_total_63 : decode b_MD_total 63 = .ok (.ireturn, 1) := by decide +kernel
theorem d_MD_total_64 : decode b_MD_total 64 = .ok (.iconst 0, 1) := by decide +kernel
theorem d_MD_total_65 : decode b_MD_total 65 = .ok (.istore 6, 2) := by decide +kernel
theorem d_MD_total_67 : decode b_MD_total 67 = .ok (.iload_n 2, 1) := by decide +kernel
theorem d_MD_total_68 : decode b_MD_total 68 = .ok (.istore 7, 2) := by decide +kernel
theorem d_MD_total_70 : decode b_MD_total 70 = .ok (.iload 7, 2) := by decide +kernel
theorem d_MD_total_72 : decode b_MD_total 72 = .ok (.iload_n 3, 1) := by decide +kernel
theorem d_MD_total_73 : decode b_MD_total 73 = .ok (.if_icmp .ge 74, 3) := by decide +kernel
theorem d_MD_total_76 : decode b_MD_total 76 = .ok (.iconst 0, 1) := by decide +kernel
theorem d_MD_total_77 : decode b_MD_total 77 = .ok (.istore 8, 2) := by decide +kernel
theorem d_MD_total_79 : decode b_MD_total 79 = .ok (.iload 8, 2) := by decide +kernel
theorem d_MD_total_81 : decode b_MD_total 81 = .ok (.bipush 48, 2) := by decide +kernel
theorem d_MD_total_83 : decode b_MD_total 83 = .ok (.if_icmp .ge 58, 3) := by decide +kernel
theorem d_MD_total_86 : decode b_MD_total 86 = .ok (.aload_n 0, 1) := by decide +kernel
theorem d_MD_total_87 : decode b_MD_total 87 = .ok (.iload 7, 2) := by decide +kernel
theorem d_MD_total_89 : decode b_MD_total 89 = .ok (.iload 8, 2) := by decide +kernel
theorem d_MD_total_91 : decode b_MD_total 91 = .ok (.invokevirtual 183, 3) := by decide +kernel
theorem d_MD_total_94 : decode b_MD_total 94 = .ok (.ifCond .ne 41, 3) := by decide +kernel
theorem d_MD_total_97 : decode b_MD_total 97 = .ok (.aload_n 0, 1) := by decide +kernel
theorem d_MD_total_98 : decode b_MD_total 98 = .ok (.iload_n 1, 1) := by decide +kernel
theorem d_MD_total_99 : decode b_MD_total 99 = .ok (.iload 7, 2) := by decide +kernel
theorem d_MD_total_101 : decode b_MD_total 101 = .ok (.iload 8, 2) := by decide +kernel
theorem d_MD_total_103 : decode b_MD_total 103 = .ok (.invokevirtual 186, 3) := by decide +kernel
theorem d_MD_total_106 : decode b_MD_total 106 = .ok (.iload 4, 2) := by decide +kernel
theorem d_MD_total_108 : decode b_MD_total 108 = .ok (.if_icmp .ne 27, 3) := by decide +kernel
theorem d_MD_total_111 : decode b_MD_total 111 = .ok (.aload_n 0, 1) := by decide +kernel
theorem d_MD_total_112 : decode b_MD_total 112 = .ok (.iload 7, 2) := by decide +kernel
theorem d_MD_total_114 : decode b_MD_total 114 = .ok (.iload 8, 2) := by decide +kernel
theorem d_MD_total_116 : decode b_MD_total 116 = .ok (.invokevirtual 189, 3) := by decide +kernel
theorem d_MD_total_119 : decode b_MD_total 119 = .ok (.ifCond .eq 10, 3) := by decide +kernel
theorem d_MD_total_122 : decode b_MD_total 122 = .ok (.iload 6, 2) := by decide +kernel
theorem d_MD_total_124 : decode b_MD_total 124 = .ok (.iconst 2, 1) := by decide +kernel
theorem d_MD_total_125 : decode b_MD_total 125 = .ok (.iadd, 1) := by decide +kernel
theorem d_MD_total_126 : decode b_MD_total 126 = .ok (.goto 7, 3) := by decide +kernel
theorem d_MD_total_129 : decode b_MD_total 129 = .ok (.iload 6, 2) := by decide +kernel
theorem d_MD_total_131 : decode b_MD_total 131 = .ok (.iconst 1, 1) := by decide +kernel
theorem d_MD_total_132 : decode b_MD_total 132 = .ok (.iadd, 1) := by decide +kernel
theorem d_MD_total_133 : decode b_MD_total 133 = .ok (.istore 6, 2) := by decide +kernel
theorem d_MD_total_135 : decode b_MD_total 135 = .ok (.iinc 8 1, 3) := by decide +kernel
theorem d_MD_total_138 : decode b_MD_total 138 = .ok (.goto (-59), 3) := by decide +kernel
theorem d_MD_total_141 : decode b_MD_total 141 = .ok (.iinc 7 1, 3) := by decide +kernel
theorem d_MD_total_144 : decode b_MD_total 144 = .ok (.goto (-74), 3) := by decide +kernel
theorem d_MD_total_147 : decode b_MD_total 147 = .ok (.iload 6, 2) := by decide +kernel
theorem d_MD_total_149 : decode b_MD_total 149 = .ok (.ireturn, 1) := by decide +kernel
theorem d_MD_compare_0 : decode b_MD_compare 0 = .ok (.aload_n 0, 1) := by decide +kernel
theorem d_MD_compare_1 : decode b_MD_compare 1 = .ok (.aload_n 0, 1) := by decide +kernel
theorem d_MD_compare_2 : decode b_MD_compare 2 = .ok (.iload_n 1, 1) := by decide +kernel
theorem d_MD_compare_3 : decode b_MD_compare 3 = .ok (.iload_n 2, 1) := by decide +kernel
theorem d_MD_compare_4 : decode b_MD_compare 4 = .ok (.invokevirtual 202, 3) := by decide +kernel
theorem d_MD_compare_7 : decode b_MD_compare 7 = .ok (.invokevirtual 159, 3) := by decide +kernel
theorem d_MD_compare_10 : decode b_MD_compare 10 = .ok (.ifCond .eq 5, 3) := by decide +kernel
theorem d_MD_compare_13 : decode b_MD_compare 13 = .ok (.iconst 0, 1) := by decide +kernel
theorem d_MD_compare_14 : decode b_MD_compare 14 = .ok (.ireturn, 1) := by decide +kernel
theorem d_MD_compare_15 : decode b_MD_compare 15 = .ok (.iconst 0, 1) := by decide +kernel
theorem d_MD_compare_16 : decode b_MD_compare 16 = .ok (.istore_n 3, 1) := by decide +kernel
theorem d_MD_compare_17 : decode b_MD_compare 17 = .ok (.iload_n 3, 1) := by decide +kernel
theorem d_MD_compare_18 : decode b_MD_compare 18 = .ok (.sipush 1461, 3) := by decide +kernel
theorem d_MD_compare_21 : decode b_MD_compare 21 = .ok (.if_icmp .ge 62, 3) := by decide +kernel
theorem d_MD_compare_24 : decode b_MD_compare 24 = .ok (.iconst 0, 1) := by decide +kernel
theorem d_MD_compare_25 : decode b_MD_compare 25 = .ok (.istore 4, 2) := by decide +kernel
theorem d_MD_compare_27 : decode b_MD_compare 27 = .ok (.iload 4, 2) := by decide +kernel
theorem d_MD_compare_29 : decode b_MD_compare 29 = .ok (.bipush 48, 2) := by decide +kernel
theorem d_MD_compare_31 : decode b_MD_compare 31 = .ok (.if_icmp .ge 46, 3) := by decide +kernel
theorem d_MD_compare_34 : decode b_MD_compare 34 = .ok (.aload_n 0, 1) := by decide +kernel
theorem d_MD_compare_35 : decode b_MD_compare 35 = .ok (.iload_n 3, 1) := by decide +kernel
theorem d_MD_compare_36 : decode b_MD_compare 36 = .ok (.iload 4, 2) := by decide +kernel
theorem d_MD_compare_38 : decode b_MD_compare 38 = .ok (.invokevirtual 183, 3) := by decide +kernel
theorem d_MD_compare_41 : decode b_MD_compare 41 = .ok (.ifCond .ne 30, 3) := by decide +kernel
theorem d_MD_compare_44 : decode b_MD_compare 44 = .ok (.aload_n 0, 1) := by decide +kernel
theorem d_MD_compare_45 : decode b_MD_compare 45 = .ok (.iload_n 1, 1) := by decide +kernel
theorem d_MD_compare_46 : decode b_MD_compare 46 = .ok (.iload_n 3, 1) := by decide +kernel
theorem d_MD_compare_47 : decode b_MD_compare 47 = .ok (.iload 4, 2) := by decide +kernel
theorem d_MD_compare_49 : decode b_MD_compare 49 = .ok (.invokevirtual 186, 3) := by decide +kernel
theorem d_MD_compare_52 : decode b_MD_compare 52 = .ok (.aload_n 0, 1) := by decide +kernel
theorem d_MD_compare_53 : decode b_MD_compare 53 = .ok (.iload_n 2, 1) := by decide +kernel
theorem d_MD_compare_54 : decode b_MD_compare 54 = .ok (.iload_n 3, 1) := by decide +kernel
theorem d_MD_compare_55 : decode b_MD_compare 55 = .ok (.iload 4, 2) := by decide +kernel
theorem d_MD_compare_57 : decode b_MD_compare 57 = .ok (.invokevirtual 186, 3) := by decide +kernel
theorem d_MD_compare_60 : decode b_MD_compare 60 = .ok (.if_icmp .eq 11, 3) := by decide +kernel
theorem d_MD_compare_63 : decode b_MD_compare 63 = .ok (.bipush 100, 2) := by decide +kernel
theorem d_MD_compare_65 : decode b_MD_compare 65 = .ok (.iload_n 3, 1) := by decide +kernel
theorem d_MD_compare_66 : decode b_MD_compare 66 = .ok (.imul, 1) := by decide +kernel
theorem d_MD_compare_67 : decode b_MD_compare 67 = .ok (.iload 4, 2) := by decide +kernel
theorem d_MD_compare_69 : decode b_MD_compare 69 = .ok (.iadd, 1) := by decide +kernel
theorem d_MD_compare_70 : decode b_MD_compare 70 = .ok (.ireturn, 1) := by decide +kernel
theorem d_MD_compare_71 : decode b_MD_compare 71 = .ok (.iinc 4 1, 3) := by decide +kernel
theorem d_MD_compare_74 : decode b_MD_compare 74 = .ok (.goto (-47), 3) := by decide +kernel
theorem d_MD_compare_77 : decode b_MD_compare 77 = .ok (.iinc 3 1, 3) := by decide +kernel
theorem d_MD_compare_80 : decode b_MD_compare 80 = .ok (.goto (-63), 3) := by decide +kernel
theorem d_MD_compare_83 : decode b_MD_compare 83 = .ok (.iconst (-1), 1) := by decide +kernel
theorem d_MD_compare_84 : decode b_MD_compare 84 = .ok (.ireturn, 1) := by decide +kernel
theorem d_MD_inside_0 : decode b_MD_inside 0 = .ok (.aload_n 0, 1) := by decide +kernel
theorem d_MD_inside_1 : decode b_MD_inside 1 = .ok (.aload_n 0, 1) := by decide +kernel
theorem d_MD_inside_2 : decode b_MD_inside 2 = .ok (.iload_n 1, 1) := by decide +kernel
theorem d_MD_inside_3 : decode b_MD_inside 3 = .ok (.iload_n 2, 1) := by decide +kernel
theorem d_MD_inside_4 : decode b_MD_inside 4 = .ok (.invokevirtual 202, 3) := by decide +kernel
theorem d_MD_inside_7 : decode b_MD_inside 7 = .ok (.invokevirtual 159, 3) := by decide +kernel
theorem d_MD_inside_10 : decode b_MD_inside 10 = .ok (.ifCond .eq 5, 3) := by decide +kernel
theorem d_MD_inside_13 : decode b_MD_inside 13 = .ok (.iconst 0, 1) := by decide +kernel
theorem d_MD_inside_14 : decode b_MD_inside 14 = .ok (.ireturn, 1) := by decide +kernel
theorem d_MD_inside_15 : decode b_MD_inside 15 = .ok (.iconst 0, 1) := by decide +kernel
theorem d_MD_inside_16 : decode b_MD_inside 16 = .ok (.istore_n 3, 1) := by decide +kernel
theorem d_MD_inside_17 : decode b_MD_inside 17 = .ok (.iload_n 3, 1) := by decide +kernel
theorem d_MD_inside_18 : decode b_MD_inside 18 = .ok (.sipush 1461, 3) := by decide +kernel
theorem d_MD_inside_21 : decode b_MD_inside 21 = .ok (.if_icmp .ge 59, 3) := by decide +kernel
theorem d_MD_inside_24 : decode b_MD_inside 24 = .ok (.iconst 0, 1) := by decide +kernel
theorem d_MD_inside_25 : decode b_MD_inside 25 = .ok (.istore 4, 2) := by decide +kernel
theorem d_MD_inside_27 : decode b_MD_inside 27 = .ok (.iload 4, 2) := by decide +kernel
theorem d_MD_inside_29 : decode b_MD_inside 29 = .ok (.bipush 48, 2) := by decide +kernel
theorem d_MD_inside_31 : decode b_MD_inside 31 = .ok (.if_icmp .ge 43, 3) := by decide +kernel
theorem d_MD_inside_34 : decode b_MD_inside 34 = .ok (.aload_n 0, 1) := by decide +kernel
theorem d_MD_inside_35 : decode b_MD_inside 35 = .ok (.iload_n 3, 1) := by decide +kernel
theorem d_MD_inside_36 : decode b_MD_inside 36 = .ok (.iload 4, 2) := by decide +kernel
theorem d_MD_inside_38 : decode b_MD_inside 38 = .ok (.invokevirtual 183, 3) := by decide +kernel
theorem d_MD_inside_41 : decode b_MD_inside 41 = .ok (.ifCond .ne 27, 3) := by decide +kernel
theorem d_MD_inside_44 : decode b_MD_inside 44 = .ok (.aload_n 0, 1) := by decide +kernel
theorem d_MD_inside_45 : decode b_MD_inside 45 = .ok (.iload_n 1, 1) := by decide +kernel
theorem d_MD_inside_46 : decode b_MD_inside 46 = .ok (.iload_n 3, 1) := by decide +kernel
theorem d_MD_inside_47 : decode b_MD_inside 47 = .ok (.iload 4, 2) := by decide +kernel
theorem d_MD_inside_49 : decode b_MD_inside 49 = .ok (.invokevirtual 186, 3) := by decide +kernel
theorem d_MD_inside_52 : decode b_MD_inside 52 = .ok (.ifCond .le 16, 3) := by decide +kernel
theorem d_MD_inside_55 : decode b_MD_inside 55 = .ok (.aload_n 0, 1) := by decide +kernel
theorem d_MD_inside_56 : decode b_MD_inside 56 = .ok (.iload_n 2, 1) := by decide +kernel
theorem d_MD_inside_57 : decode b_MD_inside 57 = .ok (.iload_n 3, 1) := by decide +kernel
theorem d_MD_inside_58 : decode b_MD_inside 58 = .ok (.iload 4, 2) := by decide +kernel
theorem d_MD_inside_60 : decode b_MD_inside 60 = .ok (.invokevirtual 186, 3) := by decide +kernel
theorem d_MD_inside_63 : decode b_MD_inside 63 = .ok (.ifCond .ne 5, 3) := by decide +kernel
theorem d_MD_inside_66 : decode b_MD_inside 66 = .ok (.iconst 0, 1) := by decide +kernel
theorem d_MD_inside_67 : decode b_MD_inside 67 = .ok (.ireturn, 1) := by decide +kernel
theorem d_MD_inside_68 : decode b_MD_inside 68 = .ok (.iinc 4 1, 3) := by decide +kernel
theorem d_MD_inside_71 : decode b_MD_inside 71 = .ok (.goto (-44), 3) := by decide +kernel
theorem d_MD_inside_74 : decode b_MD_inside 74 = .ok (.iinc 3 1, 3) := by decide +kernel
theorem d_MD_inside_77 : decode b_MD_inside 77 = .ok (.goto (-60), 3) := by decide +kernel
theorem d_MD_inside_80 : decode b_MD_inside 80 = .ok (.iconst 1, 1) := by decide +kernel
theorem d_MD_inside_81 : decode b_MD_inside 81 = .ok (.ireturn, 1) := by decide +kernel
