theorem d_MD_thrown_0 : decode b_MD_thrown 0 = .ok (.aload_n 0, 1) := by decide +kernel
theorem d_MD_thrown_1 : decode b_MD_thrown 1 = .ok (.getfield 75, 3) := by decide +kernel
theorem d_MD_thrown_4 : decode b_MD_thrown 4 = .ok (.ireturn, 1) := by decide +kernel
theorem d_MD_refused_0 : decode b_MD_refused 0 = .ok (.aload_n 0, 1) := by decide +kernel
theorem d_MD_refused_1 : decode b_MD_refused 1 = .ok (.iload_n 1, 1) := by decide +kernel
theorem d_MD_refused_2 : decode b_MD_refused 2 = .ok (.putfield 75, 3) := by decide +kernel
theorem d_MD_refused_5 : decode b_MD_refused 5 = .ok (.iload_n 1, 1) := by decide +kernel
theorem d_MD_refused_6 : decode b_MD_refused 6 = .ok (.ifCond .le 7, 3) := by decide +kernel
theorem d_MD_refused_9 : decode b_MD_refused 9 = .ok (.iconst 1, 1) := by decide +kernel
theorem d_MD_refused_10 : decode b_MD_refused 10 = .ok (.goto 4, 3) := by decide +kernel
theorem d_MD_refused_13 : decode b_MD_refused 13 = .ok (.iconst 0, 1) := by decide +kernel
theorem d_MD_refused_14 : decode b_MD_refused 14 = .ok (.ireturn, 1) := by decide +kernel
theorem d_MD_monthLength_0 : decode b_MD_monthLength 0 = .ok (.iload_n 1, 1) := by decide +kernel
theorem d_MD_monthLength_1 : decode b_MD_monthLength 1 = .ok (.iconst 2, 1) := by decide +kernel
theorem d_MD_monthLength_2 : decode b_MD_monthLength 2 = .ok (.if_icmp .ne 32, 3) := by decide +kernel
theorem d_MD_monthLength_5 : decode b_MD_monthLength 5 = .ok (.iload_n 0, 1) := by decide +kernel
theorem d_MD_monthLength_6 : decode b_MD_monthLength 6 = .ok (.iconst 4, 1) := by decide +kernel
theorem d_MD_monthLength_7 : decode b_MD_monthLength 7 = .ok (.irem, 1) := by decide +kernel
theorem d_MD_monthLength_8 : decode b_MD_monthLength 8 = .ok (.ifCond .ne 23, 3) := by decide +kernel
theorem d_MD_monthLength_11 : decode b_MD_monthLength 11 = .ok (.iload_n 0, 1) := by decide +kernel
theorem d_MD_monthLength_12 : decode b_MD_monthLength 12 = .ok (.bipush 100, 2) := by decide +kernel
theorem d_MD_monthLength_14 : decode b_MD_monthLength 14 = .ok (.irem, 1) := by decide +kernel
theorem d_MD_monthLength_15 : decode b_MD_monthLength 15 = .ok (.ifCond .ne 11, 3) := by decide +kernel
theorem d_MD_monthLength_18 : decode b_MD_monthLength 18 = .ok (.iload_n 0, 1) := by decide +kernel
theorem d_MD_monthLength_19 : decode b_MD_monthLength 19 = .ok (.sipush 400, 3) := by decide +kernel
theorem d_MD_monthLength_22 : decode b_MD_monthLength 22 = .ok (.irem, 1) := by decide +kernel
theorem d_MD_monthLength_23 : decode b_MD_monthLength 23 = .ok (.ifCond .ne 8, 3) := by decide +kernel
theorem d_MD_monthLength_26 : decode b_MD_monthLength 26 = .ok (.bipush 29, 2) := by decide +kernel
theorem d_MD_monthLength_28 : decode b_MD_monthLength 28 = .ok (.goto 5, 3) := by decide +kernel
theorem d_MD_monthLength_31 : decode b_MD_monthLength 31 = .ok (.bipush 28, 2) := by decide +kernel
theorem d_MD_monthLength_33 : decode b_MD_monthLength 33 = .ok (.ireturn, 1) := by decide +kernel
theorem d_MD_monthLength_34 : decode b_MD_monthLength 34 = .ok (.iload_n 1, 1) := by decide +kernel
theorem d_MD_monthLength_35 : decode b_MD_monthLength 35 = .ok (.iconst 4, 1) := by decide +kernel
theorem d_MD_monthLength_36 : decode b_MD_monthLength 36 = .ok (.if_icmp .eq 21, 3) := by decide +kernel
theorem d_MD_monthLength_39 : decode b_MD_monthLength 39 = .ok (.iload_n 1, 1) := by decide +kernel
theorem d_MD_monthLength_40 : decode b_MD_monthLength 40 = .ok (.bipush 6, 2) := by decide +kernel
theorem d_MD_monthLength_42 : decode b_MD_monthLength 42 = .ok (.if_icmp .eq 15, 3) := by decide +kernel
theorem d_MD_monthLength_45 : decode b_MD_monthLength 45 = .ok (.iload_n 1, 1) := by decide +kernel
theorem d_MD_monthLength_46 : decode b_MD_monthLength 46 = .ok (.bipush 9, 2) := by decide +kernel
theorem d_MD_monthLength_48 : decode b_MD_monthLength 48 = .ok (.if_icmp .eq 9, 3) := by decide +kernel
theorem d_MD_monthLength_51 : decode b_MD_monthLength 51 = .ok (.iload_n 1, 1) := by decide +kernel
theorem d_MD_monthLength_52 : decode b_MD_monthLength 52 = .ok (.bipush 11, 2) := by decide +kernel
theorem d_MD_monthLength_54 : decode b_MD_monthLength 54 = .ok (.if_icmp .ne 8, 3) := by decide +kernel
theorem d_MD_monthLength_57 : decode b_MD_monthLength 57 = .ok (.bipush 30, 2) := by decide +kernel
theorem d_MD_monthLength_59 : decode b_MD_monthLength 59 = .ok (.goto 5, 3) := by decide +kernel
theorem d_MD_monthLength_62 : decode b_MD_monthLength 62 = .ok (.bipush 31, 2) := by decide +kernel
theorem d_MD_monthLength_64 : decode b_MD_monthLength 64 = .ok (.ireturn, 1) := by decide +kernel
theorem d_MD_weekday_0 : decode b_MD_weekday 0 = .ok (.iload_n 0, 1) := by decide +kernel
theorem d_MD_weekday_1 : decode b_MD_weekday 1 = .ok (.iconst 5, 1) := by decide +kernel
theorem d_MD_weekday_2 : decode b_MD_weekday 2 = .ok (.iadd, 1) := by decide +kernel
theorem d_MD_weekday_3 : decode b_MD_weekday 3 = .ok (.bipush 7, 2) := by decide +kernel
theorem d_MD_weekday_5 : decode b_MD_weekday 5 = .ok (.irem, 1) := by decide +kernel
theorem d_MD_weekday_6 : decode b_MD_weekday 6 = .ok (.iconst 1, 1) := by decide +kernel
theorem d_MD_weekday_7 : decode b_MD_weekday 7 = .ok (.iadd, 1) := by decide +kernel
theorem d_MD_weekday_8 : decode b_MD_weekday 8 = .ok (.ireturn, 1) := by decide +kernel
theorem d_MD_feastOf_0 : decode b_MD_feastOf 0 = .ok (.iload_n 0, 1) := by decide +kernel
theorem d_MD_feastOf_1 : decode b_MD_feastOf 1 = .ok (.bipush 19, 2) := by decide +kernel
theorem d_MD_feastOf_3 : decode b_MD_feastOf 3 = .ok (.irem, 1) := by decide +kernel
theorem d_MD_feastOf_4 : decode b_MD_feastOf 4 = .ok (.istore_n 1, 1) := by decide +kernel
theorem d_MD_feastOf_5 : decode b_MD_feastOf 5 = .ok (.iload_n 0, 1) := by decide +kernel
theorem d_MD_feastOf_6 : decode b_MD_feastOf 6 = .ok (.bipush 100, 2) := by decide +kernel
theorem d_MD_feastOf_8 : decode b_MD_feastOf 8 = .ok (.idiv, 1) := by decide +kernel
theorem d_MD_feastOf_9 : decode b_MD_feastOf 9 = .ok (.istore_n 2, 1) := by decide +kernel
theorem d_MD_feastOf_10 : decode b_MD_feastOf 10 = .ok (.iload_n 0, 1) := by decide +kernel
theorem d_MD_feastOf_11 : decode b_MD_feastOf 11 = .ok (.bipush 100, 2) := by decide +kernel
theorem d_MD_feastOf_13 : decode b_MD_feastOf 13 = .ok (.irem, 1) := by decide +kernel
theorem d_MD_feastOf_14 : decode b_MD_feastOf 14 = .ok (.istore_n 3, 1) := by decide +kernel
theorem d_MD_feastOf_15 : decode b_MD_feastOf 15 = .ok (.iload_n 2, 1) := by decide +kernel
theorem d_MD_feastOf_16 : decode b_MD_feastOf 16 = .ok (.iconst 4, 1) := by decide +kernel
theorem d_MD_feastOf_17 : decode b_MD_feastOf 17 = .ok (.idiv, 1) := by decide +kernel
theorem d_MD_feastOf_18 : decode b_MD_feastOf 18 = .ok (.istore 4, 2) := by decide +kernel
theorem d_MD_feastOf_20 : decode b_MD_feastOf 20 = .ok (.iload_n 2, 1) := by decide +kernel
theorem d_MD_feastOf_21 : decode b_MD_feastOf 21 = .ok (.iconst 4, 1) := by decide +kernel
theorem d_MD_feastOf_22 : decode b_MD_feastOf 22 = .ok (.irem, 1) := by decide +kernel
theorem d_MD_feastOf_23 : decode b_MD_feastOf 23 = .ok (.istore 5, 2) := by decide +kernel
theorem d_MD_feastOf_25 : decode b_MD_feastOf 25 = .ok (.iload_n 2, 1) := by decide +kernel
theorem d_MD_feastOf_26 : decode b_MD_feastOf 26 = .ok (.bipush 8, 2) := by decide +kernel
theorem d_MD_feastOf_28 : decode b_MD_feastOf 28 = .ok (.iadd, 1) := by decide +kernel
theorem d_MD_feastOf_29 : decode b_MD_feastOf 29 = .ok (.bipush 25, 2) := by decide +kernel
theorem d_MD_feastOf_31 : decode b_MD_feastOf 31 = .ok (.idiv, 1) := by decide +kernel
theorem d_MD_feastOf_32 : decode b_MD_feastOf 32 = .ok (.istore 6, 2) := by decide +kernel
theorem d_MD_feastOf_34 : decode b_MD_feastOf 34 = .ok (.iload_n 2, 1) := by decide +kernel
theorem d_MD_feastOf_35 : decode b_MD_feastOf 35 = .ok (.iload 6, 2) := by decide +kernel
theorem d_MD_feastOf_37 : decode b_MD_feastOf 37 = .ok (.isub, 1) := by decide +kernel
theorem d_MD_feastOf_38 : decode b_MD_feastOf 38 = .ok (.iconst 1, 1) := by decide +kernel
theorem d_MD_feastOf_39 : decode b_MD_feastOf 39 = .ok (.iadd, 1) := by decide +kernel
theorem d_MD_feastOf_40 : decode b_MD_feastOf 40 = .ok (.iconst 3, 1) := by decide +kernel
theorem d_MD_feastOf_41 : decode b_MD_feastOf 41 = .ok (.idiv, 1) := by decide +kernel
theorem d_MD_feastOf_42 : decode b_MD_feastOf 42 = .ok (.istore 7, 2) := by decide +kernel
theorem d_MD_feastOf_44 : decode b_MD_feastOf 44 = .ok (.bipush 19, 2) := by decide +kernel
theorem d_MD_feastOf_46 : decode b_MD_feastOf 46 = .ok (.iload_n 1, 1) := by decide +kernel
theorem d_MD_feastOf_47 : decode b_MD_feastOf 47 = .ok (.imul, 1) := by decide +kernel
theorem d_MD_feastOf_48 : decode b_MD_feastOf 48 = .ok (.iload_n 2, 1) := by decide +kernel
theorem d_MD_feastOf_49 : decode b_MD_feastOf 49 = .ok (.iadd, 1) := by decide +kernel
theorem d_MD_feastOf_50 : decode b_MD_feastOf 50 = .ok (.iload 4, 2) := by decide +kernel
theorem d_MD_feastOf_52 : decode b_MD_feastOf 52 = .ok (.isub, 1) := by decide +kernel
theorem d_MD_feastOf_53 : decode b_MD_feastOf 53 = .ok (.iload 7, 2) := by decide +kernel
theorem d_MD_feastOf_55 : decode b_MD_feastOf 55 = .ok (.isub, 1) := by decide +kernel
theorem d_MD_feastOf_56 : decode b_MD_feastOf 56 = .ok (.bipush 15, 2) := by decide +kernel
theorem d_MD_feastOf_58 : decode b_MD_feastOf 58 = .ok (.iadd, 1) := by decide +kernel
theorem d_MD_feastOf_59 : decode b_MD_feastOf 59 = .ok (.bipush 30, 2) := by decide +kernel
theorem d_MD_feastOf_61 : decode b_MD_feastOf 61 = .ok (.irem, 1) := by decide +kernel
theorem d_MD_feastOf_62 : decode b_MD_feastOf 62 = .ok (.istore 8, 2) := by decide +kernel
theorem d_MD_feastOf_64 : decode b_MD_feastOf 64 = .ok (.iload_n 3, 1) := by decide +kernel
theorem d_MD_feastOf_65 : decode b_MD_feastOf 65 = .ok (.iconst 4, 1) := by decide +kernel
theorem d_MD_feastOf_66 : decode b_MD_feastOf 66 = .ok (.idiv, 1) := by decide +kernel
theorem d_MD_feastOf_67 : decode b_MD_feastOf 67 = .ok (.istore 9, 2) := by decide +kernel
theorem d_MD_feastOf_69 : decode b_MD_feastOf 69 = .ok (.iload_n 3, 1) := by decide +kernel
theorem d_MD_feastOf_70 : decode b_MD_feastOf 70 = .ok (.iconst 4, 1) := by decide +kernel
theorem d_MD_feastOf_71 : decode b_MD_feastOf 71 = .ok (.irem, 1) := by decide +kernel
theorem d_MD_feastOf_72 : decode b_MD_feastOf 72 = .ok (.istore 10, 2) := by decide +kernel
theorem d_MD_feastOf_74 : decode b_MD_feastOf 74 = .ok (.bipush 32, 2) := by decide +kernel
theorem d_MD_feastOf_76 : decode b_MD_feastOf 76 = .ok (.iconst 2, 1) := by decide +kernel
theorem d_MD_feastOf_77 : decode b_MD_feastOf 77 = .ok (.iload 5, 2) := by decide +kernel
theorem d_MD_feastOf_79 : decode b_MD_feastOf 79 = .ok (.imul, 1) := by decide +kernel
theorem d_MD_feastOf_80 : decode b_MD_feastOf 80 = .ok (.iadd, 1) := by decide +kernel
theorem d_MD_feastOf_81 : decode b_MD_feastOf 81 = .ok (.iconst 2, 1) := by decide +kernel
theorem d_MD_feastOf_82 : decode b_MD_feastOf 82 = .ok (.iload 9, 2) := by decide +kernel
theorem d_MD_feastOf_84 : decode b_MD_feastOf 84 = .ok (.imul, 1) := by decide +kernel
theorem d_MD_feastOf_85 : decode b_MD_feastOf 85 = .ok (.iadd, 1) := by decide +kernel
theorem d_MD_feastOf_86 : decode b_MD_feastOf 86 = .ok (.iload 8, 2) := by decide +kernel
theorem d_MD_feastOf_88 : decode b_MD_feastOf 88 = .ok (.isub, 1) := by decide +kernel
theorem d_MD_feastOf_89 : decode b_MD_feastOf 89 = .ok (.iload 10, 2) := by decide +kernel
theorem d_MD_feastOf_91 : decode b_MD_feastOf 91 = .ok (.isub, 1) := by decide +kernel
theorem d_MD_feastOf_92 : decode b_MD_feastOf 92 = .ok (.bipush 7, 2) := by decide +kernel
theorem d_MD_feastOf_94 : decode b_MD_feastOf 94 = .ok (.irem, 1) := by decide +kernel
theorem d_MD_feastOf_95 : decode b_MD_feastOf 95 = .ok (.istore 11, 2) := by decide +kernel
theorem d_MD_feastOf_97 : decode b_MD_feastOf 97 = .ok (.iload_n 1, 1) := by decide +kernel
theorem d_MD_feastOf_98 : decode b_MD_feastOf 98 = .ok (.bipush 11, 2) := by decide +kernel
theorem d_MD_feastOf_100 : decode b_MD_feastOf 100 = .ok (.iload 8, 2) := by decide +kernel
theorem d_MD_feastOf_102 : decode b_MD_feastOf 102 = .ok (.imul, 1) := by decide +kernel
theorem d_MD_feastOf_103 : decode b_MD_feastOf 103 = .ok (.iadd, 1) := by decide +kernel
theorem d_MD_feastOf_104 : decode b_MD_feastOf 104 = .ok (.bipush 22, 2) := by decide +kernel
theorem d_MD_feastOf_106 : decode b_MD_feastOf 106 = .ok (.iload 11, 2) := by decide +kernel
theorem d_MD_feastOf_108 : decode b_MD_feastOf 108 = .ok (.imul, 1) := by decide +kernel
theorem d_MD_feastOf_109 : decode b_MD_feastOf 109 = .ok (.iadd, 1) := by decide +kernel
theorem d_MD_feastOf_110 : decode b_MD_feastOf 110 = .ok (.sipush 451, 3) := by decide +kernel
theorem d_MD_feastOf_113 : decode b_MD_feastOf 113 = .ok (.idiv, 1) := by decide +kernel
theorem d_MD_feastOf_114 : decode b_MD_feastOf 114 = .ok (.istore 12, 2) := by decide +kernel
theorem d_MD_feastOf_116 : decode b_MD_feastOf 116 = .ok (.iload 8, 2) := by decide +kernel
theorem d_MD_feastOf_118 : decode b_MD_feastOf 118 = .ok (.iload 11, 2) := by decide +kernel
theorem d_MD_feastOf_120 : decode b_MD_feastOf 120 = .ok (.iadd, 1) := by decide +kernel
theorem d_MD_feastOf_121 : decode b_MD_feastOf 121 = .ok (.bipush 7, 2) := by decide +kernel
theorem d_MD_feastOf_123 : decode b_MD_feastOf 123 = .ok (.iload 12, 2) := by decide +kernel
theorem d_MD_feastOf_125 : decode b_MD_feastOf 125 = .ok (.imul, 1) := by decide +kernel
theorem d_MD_feastOf_126 : decode b_MD_feastOf 126 = .ok (.isub, 1) := by decide +kernel
theorem d_MD_feastOf_127 : decode b_MD_feastOf 127 = .ok (.bipush 114, 2) := by decide +kernel
theorem d_MD_feastOf_129 : decode b_MD_feastOf 129 = .ok (.iadd, 1) := by decide +kernel
theorem d_MD_feastOf_130 : decode b_MD_feastOf 130 = .ok (.istore 13, 2) := by decide +kernel
theorem d_MD_feastOf_132 : decode b_MD_feastOf 132 = .ok (.bipush 100, 2) := by decide +kernel
theorem d_MD_feastOf_134 : decode b_MD_feastOf 134 = .ok (.iload 13, 2) := by decide +kernel
theorem d_MD_feastOf_136 : decode b_MD_feastOf 136 = .ok (.bipush 31, 2) := by decide +kernel
theorem d_MD_feastOf_138 : decode b_MD_feastOf 138 = .ok (.idiv, 1) := by decide +kernel
theorem d_MD_feastOf_139 : decode b_MD_feastOf 139 = .ok (.imul, 1) := by decide +kernel
theorem d_MD_feastOf_140 : decode b_MD_feastOf 140 = .ok (.iload 13, 2) := by decide +kernel
theorem d_MD_feastOf_142 : decode b_MD_feastOf 142 = .ok (.bipush 31, 2) := by decide +kernel
theorem d_MD_feastOf_144 : decode b_MD_feastOf 144 = .ok (.irem, 1) := by decide +kernel
theorem d_MD_feastOf_145 : decode b_MD_feastOf 145 = .ok (.iadd, 1) := by decide +kernel
theorem d_MD_feastOf_146 : decode b_MD_feastOf 146 = .ok (.iconst 1, 1) := by decide +kernel
theorem d_MD_feastOf_147 : decode b_MD_feastOf 147 = .ok (.iadd, 1) := by decide +kernel
theorem d_MD_feastOf_148 : decode b_MD_feastOf 148 = .ok (.ireturn, 1) := by decide +kernel
theorem d_MD_isLastSunday_0 : decode b_MD_isLastSunday 0 = .ok (.aload_n 0, 1) := by decide +kernel
theorem d_MD_isLastSunday_1 : decode b_MD_isLastSunday 1 = .ok (.getfield 13, 3) := by decide +kernel
theorem d_MD_isLastSunday_4 : decode b_MD_isLastSunday 4 = .ok (.iload_n 1, 1) := by decide +kernel
theorem d_MD_isLastSunday_5 : decode b_MD_isLastSunday 5 = .ok (.iaload, 1) := by decide +kernel
theorem d_MD_isLastSunday_6 : decode b_MD_isLastSunday 6 = .ok (.bipush 100, 2) := by decide +kernel
theorem d_MD_isLastSunday_8 : decode b_MD_isLastSunday 8 = .ok (.idiv, 1) := by decide +kernel
theorem d_MD_isLastSunday_9 : decode b_MD_isLastSunday 9 = .ok (.bipush 100, 2) := by decide +kernel
theorem d_MD_isLastSunday_11 : decode b_MD_isLastSunday 11 = .ok (.irem, 1) := by decide +kernel
theorem d_MD_isLastSunday_12 : decode b_MD_isLastSunday 12 = .ok (.istore_n 3, 1) := by decide +kernel
theorem d_MD_isLastSunday_13 : decode b_MD_isLastSunday 13 = .ok (.iload_n 3, 1) := by decide +kernel
theorem d_MD_isLastSunday_14 : decode b_MD_isLastSunday 14 = .ok (.iload_n 2, 1) := by decide +kernel
theorem d_MD_isLastSunday_15 : decode b_MD_isLastSunday 15 = .ok (.if_icmp .ne 33, 3) := by decide +kernel
theorem d_MD_isLastSunday_18 : decode b_MD_isLastSunday 18 = .ok (.iload_n 1, 1) := by decide +kernel
theorem d_MD_isLastSunday_19 : decode b_MD_isLastSunday 19 = .ok (.invokestatic 79, 3) := by decide +kernel
theorem d_MD_isLastSunday_22 : decode b_MD_isLastSunday 22 = .ok (.bipush 7, 2) := by decide +kernel
theorem d_MD_isLastSunday_24 : decode b_MD_isLastSunday 24 = .ok (.if_icmp .ne 24, 3) := by decide +kernel
theorem d_MD_isLastSunday_27 : decode b_MD_isLastSunday 27 = .ok (.aload_n 0, 1) := by decide +kernel
theorem d_MD_isLastSunday_28 : decode b_MD_isLastSunday 28 = .ok (.getfield 13, 3) := by decide +kernel
theorem d_MD_isLastSunday_31 : decode b_MD_isLastSunday 31 = .ok (.iload_n 1, 1) := by decide +kernel
theorem d_MD_isLastSunday_32 : decode b_MD_isLastSunday 32 = .ok (.iaload, 1) := by decide +kernel
theorem d_MD_isLastSunday_33 : decode b_MD_isLastSunday 33 = .ok (.bipush 100, 2) := by decide +kernel
theorem d_MD_isLastSunday_35 : decode b_MD_isLastSunday 35 = .ok (.irem, 1) := by decide +kernel
theorem d_MD_isLastSunday_36 : decode b_MD_isLastSunday 36 = .ok (.bipush 7, 2) := by decide +kernel
theorem d_MD_isLastSunday_38 : decode b_MD_isLastSunday 38 = .ok (.iadd, 1) := by decide +kernel
theorem d_MD_isLastSunday_39 : decode b_MD_isLastSunday 39 = .ok (.bipush 31, 2) := by decide +kernel
theorem d_MD_isLastSunday_41 : decode b_MD_isLastSunday 41 = .ok (.if_icmp .le 7, 3) := by decide +kernel
theorem d_MD_isLastSunday_44 : decode b_MD_isLastSunday 44 = .ok (.iconst 1, 1) := by decide +kernel
theorem d_MD_isLastSunday_45 : decode b_MD_isLastSunday 45 = .ok (.goto 4, 3) := by decide +kernel
theorem d_MD_isLastSunday_48 : decode b_MD_isLastSunday 48 = .ok (.iconst 0, 1) := by decide +kernel
theorem d_MD_isLastSunday_49 : decode b_MD_isLastSunday 49 = .ok (.ireturn, 1) := by decide +kernel
theorem d_MD_isLost_0 : decode b_MD_isLost 0 = .ok (.aload_n 0, 1) := by decide +kernel
theorem d_MD_isLost_1 : decode b_MD_isLost 1 = .ok (.getfield 82, 3) := by decide +kernel
theorem d_MD_isLost_4 : decode b_MD_isLost 4 = .ok (.ifCond .eq 26, 3) := by decide +kernel
theorem d_MD_isLost_7 : decode b_MD_isLost 7 = .ok (.iload_n 2, 1) := by decide +kernel
theorem d_MD_isLost_8 : decode b_MD_isLost 8 = .ok (.iconst 4, 1) := by decide +kernel
theorem d_MD_isLost_9 : decode b_MD_isLost 9 = .ok (.if_icmp .eq 8, 3) := by decide +kernel
theorem d_MD_isLost_12 : decode b_MD_isLost 12 = .ok (.iload_n 2, 1) := by decide +kernel
theorem d_MD_isLost_13 : decode b_MD_isLost 13 = .ok (.iconst 5, 1) := by decide +kernel
theorem d_MD_isLost_14 : decode b_MD_isLost 14 = .ok (.if_icmp .ne 16, 3) := by decide +kernel
theorem d_MD_isLost_17 : decode b_MD_isLost 17 = .ok (.aload_n 0, 1) := by decide +kernel
theorem d_MD_isLost_18 : decode b_MD_isLost 18 = .ok (.iload_n 1, 1) := by decide +kernel
theorem d_MD_isLost_19 : decode b_MD_isLost 19 = .ok (.iconst 3, 1) := by decide +kernel
theorem d_MD_isLost_20 : decode b_MD_isLost 20 = .ok (.invokevirtual 86, 3) := by decide +kernel
theorem d_MD_isLost_23 : decode b_MD_isLost 23 = .ok (.ifCond .eq 7, 3) := by decide +kernel
theorem d_MD_isLost_26 : decode b_MD_isLost 26 = .ok (.iconst 1, 1) := by decide +kernel
theorem d_MD_isLost_27 : decode b_MD_isLost 27 = .ok (.goto 4, 3) := by decide +kernel
theorem d_MD_isLost_30 : decode b_MD_isLost 30 = .ok (.iconst 0, 1) := by decide +kernel
theorem d_MD_isLost_31 : decode b_MD_isLost 31 = .ok (.ireturn, 1) := by decide +kernel
theorem d_MD_isTwice_0 : decode b_MD_isTwice 0 = .ok (.aload_n 0, 1) := by decide +kernel
theorem d_MD_isTwice_1 : decode b_MD_isTwice 1 = .ok (.getfield 82, 3) := by decide +kernel
theorem d_MD_isTwice_4 : decode b_MD_isTwice 4 = .ok (.ifCond .eq 27, 3) := by decide +kernel
theorem d_MD_isTwice_7 : decode b_MD_isTwice 7 = .ok (.iload_n 2, 1) := by decide +kernel
theorem d_MD_isTwice_8 : decode b_MD_isTwice 8 = .ok (.iconst 4, 1) := by decide +kernel
theorem d_MD_isTwice_9 : decode b_MD_isTwice 9 = .ok (.if_icmp .eq 8, 3) := by decide +kernel
theorem d_MD_isTwice_12 : decode b_MD_isTwice 12 = .ok (.iload_n 2, 1) := by decide +kernel
theorem d_MD_isTwice_13 : decode b_MD_isTwice 13 = .ok (.iconst 5, 1) := by decide +kernel
theorem d_MD_isTwice_14 : decode b_MD_isTwice 14 = .ok (.if_icmp .ne 17, 3) := by decide +kernel
theorem d_MD_isTwice_17 : decode b_MD_isTwice 17 = .ok (.aload_n 0, 1) := by decide +kernel
theorem d_MD_isTwice_18 : decode b_MD_isTwice 18 = .ok (.iload_n 1, 1) := by decide +kernel
theorem d_MD_isTwice_19 : decode b_MD_isTwice 19 = .ok (.bipush 10, 2) := by decide +kernel
theorem d_MD_isTwice_21 : decode b_MD_isTwice 21 = .ok (.invokevirtual 86, 3) := by decide +kernel
theorem d_MD_isTwice_24 : decode b_MD_isTwice 24 = .ok (.ifCond .eq 7, 3) := by decide +kernel
theorem d_MD_isTwice_27 : decode b_MD_isTwice 27 = .ok (.iconst 1, 1) := by decide +kernel
theorem d_MD_isTwice_28 : decode b_MD_isTwice 28 = .ok (.goto 4, 3) := by decide +kernel
theorem d_MD_isTwice_31 : decode b_MD_isTwice 31 = .ok (.iconst 0, 1) := by decide +kernel
theorem d_MD_isTwice_32 : decode b_MD_isTwice 32 = .ok (.ireturn, 1) := by decide +kernel
theorem d_MD_isIn_0 : decode b_MD_isIn 0 = .ok (.iload_n 0, 1) := by decide +kernel
theorem d_MD_isIn_1 : decode b_MD_isIn 1 = .ok (.iload_n 1, 1) := by decide +kernel
theorem d_MD_isIn_2 : decode b_MD_isIn 2 = .ok (.if_icmp .lt 12, 3) := by decide +kernel
theorem d_MD_isIn_5 : decode b_MD_isIn 5 = .ok (.iload_n 0, 1) := by decide +kernel
theorem d_MD_isIn_6 : decode b_MD_isIn 6 = .ok (.iload_n 2, 1) := by decide +kernel
theorem d_MD_isIn_7 : decode b_MD_isIn 7 = .ok (.if_icmp .gt 7, 3) := by decide +kernel
theorem d_MD_isIn_10 : decode b_MD_isIn 10 = .ok (.iconst 1, 1) := by decide +kernel
theorem d_MD_isIn_11 : decode b_MD_isIn 11 = .ok (.goto 4, 3) := by decide +kernel
theorem d_MD_isIn_14 : decode b_MD_isIn 14 = .ok (.iconst 0, 1) := by decide +kernel
theorem d_MD_isIn_15 : decode b_MD_isIn 15 = .ok (.ireturn, 1) := by decide +kernel
theorem d_MD_isMatch_0 : decode b_MD_isMatch 0 = .ok (.iload_n 2, 1) := by decide +kernel
theorem d_MD_isMatch_1 : decode b_MD_isMatch 1 = .ok (.ifCond .lt 27, 3) := by decide +kernel
theorem d_MD_isMatch_4 : decode b_MD_isMatch 4 = .ok (.aload_n 0, 1) := by decide +kernel
theorem d_MD_isMatch_5 : decode b_MD_isMatch 5 = .ok (.getfield 31, 3) := by decide +kernel
theorem d_MD_isMatch_8 : decode b_MD_isMatch 8 = .ok (.sipush 1461, 3) := by decide +kernel
theorem d_MD_isMatch_11 : decode b_MD_isMatch 11 = .ok (.iload_n 1, 1) := by decide +kernel
theorem d_MD_isMatch_12 : decode b_MD_isMatch 12 = .ok (.imul, 1) := by decide +kernel
theorem d_MD_isMatch_13 : decode b_MD_isMatch 13 = .ok (.iload_n 2, 1) := by decide +kernel
theorem d_MD_isMatch_14 : decode b_MD_isMatch 14 = .ok (.iadd, 1) := by decide +kernel
theorem d_MD_isMatch_15 : decode b_MD_isMatch 15 = .ok (.iaload, 1) := by decide +kernel
theorem d_MD_isMatch_16 : decode b_MD_isMatch 16 = .ok (.iload_n 3, 1) := by decide +kernel
theorem d_MD_isMatch_17 : decode b_MD_isMatch 17 = .ok (.ishr, 1) := by decide +kernel
theorem d_MD_isMatch_18 : decode b_MD_isMatch 18 = .ok (.iconst 1, 1) := by decide +kernel
theorem d_MD_isMatch_19 : decode b_MD_isMatch 19 = .ok (.iand, 1) := by decide +kernel
theorem d_MD_isMatch_20 : decode b_MD_isMatch 20 = .ok (.iconst 1, 1) := by decide +kernel
theorem d_MD_isMatch_21 : decode b_MD_isMatch 21 = .ok (.if_icmp .ne 7, 3) := by decide +kernel
theorem d_MD_isMatch_24 : decode b_MD_isMatch 24 = .ok (.iconst 1, 1) := by decide +kernel
theorem d_MD_isMatch_25 : decode b_MD_isMatch 25 = .ok (.goto 4, 3) := by decide +kernel
theorem d_MD_isMatch_28 : decode b_MD_isMatch 28 = .ok (.iconst 0, 1) := by decide +kernel
theorem d_MD_isMatch_29 : decode b_MD_isMatch 29 = .ok (.ireturn, 1) := by decide +kernel
theorem d_MD_isCovered_0 : decode b_MD_isCovered 0 = .ok (.aload_n 0, 1) := by decide +kernel
theorem d_MD_isCovered_1 : decode b_MD_isCovered 1 = .ok (.getfield 25, 3) := by decide +kernel
theorem d_MD_isCovered_4 : decode b_MD_isCovered 4 = .ok (.bipush 12, 2) := by decide +kernel
theorem d_MD_isCovered_6 : decode b_MD_isCovered 6 = .ok (.iload_n 1, 1) := by decide +kernel
theorem d_MD_isCovered_7 : decode b_MD_isCovered 7 = .ok (.imul, 1) := by decide +kernel
theorem d_MD_isCovered_8 : decode b_MD_isCovered 8 = .ok (.iload 4, 2) := by decide +kernel
theorem d_MD_isCovered_10 : decode b_MD_isCovered 10 = .ok (.iadd, 1) := by decide +kernel
theorem d_MD_isCovered_11 : decode b_MD_isCovered 11 = .ok (.iaload, 1) := by decide +kernel
theorem d_MD_isCovered_12 : decode b_MD_isCovered 12 = .ok (.istore 5, 2) := by decide +kernel
theorem d_MD_isCovered_14 : decode b_MD_isCovered 14 = .ok (.aload_n 0, 1) := by decide +kernel
theorem d_MD_isCovered_15 : decode b_MD_isCovered 15 = .ok (.getfield 28, 3) := by decide +kernel
theorem d_MD_isCovered_18 : decode b_MD_isCovered 18 = .ok (.bipush 12, 2) := by decide +kernel
theorem d_MD_isCovered_20 : decode b_MD_isCovered 20 = .ok (.iload_n 1, 1) := by decide +kernel
theorem d_MD_isCovered_21 : decode b_MD_isCovered 21 = .ok (.imul, 1) := by decide +kernel
theorem d_MD_isCovered_22 : decode b_MD_isCovered 22 = .ok (.iload 4, 2) := by decide +kernel
theorem d_MD_isCovered_24 : decode b_MD_isCovered 24 = .ok (.iadd, 1) := by decide +kernel
theorem d_MD_isCovered_25 : decode b_MD_isCovered 25 = .ok (.iaload, 1) := by decide +kernel
theorem d_MD_isCovered_26 : decode b_MD_isCovered 26 = .ok (.istore 6, 2) := by decide +kernel
theorem d_MD_isCovered_28 : decode b_MD_isCovered 28 = .ok (.iload 5, 2) := by decide +kernel
theorem d_MD_isCovered_30 : decode b_MD_isCovered 30 = .ok (.iload 6, 2) := by decide +kernel
theorem d_MD_isCovered_32 : decode b_MD_isCovered 32 = .ok (.if_icmp .ge 32, 3) := by decide +kernel
theorem d_MD_isCovered_35 : decode b_MD_isCovered 35 = .ok (.iload_n 3, 1) := by decide +kernel
theorem d_MD_isCovered_36 : decode b_MD_isCovered 36 = .ok (.iload 5, 2) := by decide +kernel
theorem d_MD_isCovered_38 : decode b_MD_isCovered 38 = .ok (.if_icmp .lt 24, 3) := by decide +kernel
theorem d_MD_isCovered_41 : decode b_MD_isCovered 41 = .ok (.iload_n 3, 1) := by decide +kernel
theorem d_MD_isCovered_42 : decode b_MD_isCovered 42 = .ok (.iload 6, 2) := by decide +kernel
theorem d_MD_isCovered_44 : decode b_MD_isCovered 44 = .ok (.if_icmp .ge 18, 3) := by decide +kernel
theorem d_MD_isCovered_47 : decode b_MD_isCovered 47 = .ok (.aload_n 0, 1) := by decide +kernel
theorem d_MD_isCovered_48 : decode b_MD_isCovered 48 = .ok (.iload_n 1, 1) := by decide +kernel
theorem d_MD_isCovered_49 : decode b_MD_isCovered 49 = .ok (.iload_n 2, 1) := by decide +kernel
theorem d_MD_isCovered_50 : decode b_MD_isCovered 50 = .ok (.iload 4, 2) := by decide +kernel
theorem d_MD_isCovered_52 : decode b_MD_isCovered 52 = .ok (.invokevirtual 170, 3) := by decide +kernel
theorem d_MD_isCovered_55 : decode b_MD_isCovered 55 = .ok (.ifCond .eq 7, 3) := by decide +kernel
theorem d_MD_isCovered_58 : decode b_MD_isCovered 58 = .ok (.iconst 1, 1) := by decide +kernel
theorem d_MD_isCovered_59 : decode b_MD_isCovered 59 = .ok (.goto 4, 3) := by decide +kernel
theorem d_MD_isCovered_62 : decode b_MD_isCovered 62 = .ok (.iconst 0, 1) := by decide +kernel
theorem d_MD_isCovered_63 : decode b_MD_isCovered 63 = .ok (.ireturn, 1) := by decide +kernel
theorem d_MD_isCovered_64 : decode b_MD_isCovered 64 = .ok (.iload_n 3, 1) := by decide +kernel
theorem d_MD_isCovered_65 : decode b_MD_isCovered 65 = .ok (.iload 5, 2) := by decide +kernel
theorem d_MD_isCovered_67 : decode b_MD_isCovered 67 = .ok (.if_icmp .lt 14, 3) := by decide +kernel
theorem d_MD_isCovered_70 : decode b_MD_isCovered 70 = .ok (.aload_n 0, 1) := by decide +kernel
theorem d_MD_isCovered_71 : decode b_MD_isCovered 71 = .ok (.iload_n 1, 1) := by decide +kernel
theorem d_MD_isCovered_72 : decode b_MD_isCovered 72 = .ok (.iload_n 2, 1) := by decide +kernel
theorem d_MD_isCovered_73 : decode b_MD_isCovered 73 = .ok (.iload 4, 2) := by decide +kernel
theorem d_MD_isCovered_75 : decode b_MD_isCovered 75 = .ok (.invokevirtual 170, 3) := by decide +kernel
theorem d_MD_isCovered_78 : decode b_MD_isCovered 78 = .ok (.ifCond .ne 22, 3) := by decide +kernel
theorem d_MD_isCovered_81 : decode b_MD_isCovered 81 = .ok (.iload_n 3, 1) := by decide +kernel
theorem d_MD_isCovered_82 : decode b_MD_isCovered 82 = .ok (.iload 6, 2) := by decide +kernel
theorem d_MD_isCovered_84 : decode b_MD_isCovered 84 = .ok (.if_icmp .ge 20, 3) := by decide +kernel
theorem d_MD_isCovered_87 : decode b_MD_isCovered 87 = .ok (.aload_n 0, 1) := by decide +kernel
theorem d_MD_isCovered_88 : decode b_MD_isCovered 88 = .ok (.iload_n 1, 1) := by decide +kernel
theorem d_MD_isCovered_89 : decode b_MD_isCovered 89 = .ok (.iload_n 2, 1) := by decide +kernel
theorem d_MD_isCovered_90 : decode b_MD_isCovered 90 = .ok (.iconst 1, 1) := by decide +kernel
theorem d_MD_isCovered_91 : decode b_MD_isCovered 91 = .ok (.isub, 1) := by decide +kernel
theorem d_MD_isCovered_92 : decode b_MD_isCovered 92 = .ok (.iload 4, 2) := by decide +kernel
theorem d_MD_isCovered_94 : decode b_MD_isCovered 94 = .ok (.invokevirtual 170, 3) := by decide +kernel
theorem d_MD_isCovered_97 : decode b_MD_isCovered 97 = .ok (.ifCond .eq 7, 3) := by decide +kernel
theorem d_MD_isCovered_100 : decode b_MD_isCovered 100 = .ok (.iconst 1, 1) := by decide +kernel
theorem d_MD_isCovered_101 : decode b_MD_isCovered 101 = .ok (.goto 4, 3) := by decide +kernel
theorem d_MD_isCovered_104 : decode b_MD_isCovered 104 = .ok (.iconst 0, 1) := by decide +kernel
theorem d_MD_isCovered_105 : decode b_MD_isCovered 105 = .ok (.ireturn, 1) := by decide +kernel
theorem d_MD_decides_0 : decode b_MD_decides 0 = .ok (.aload_n 0, 1) := by decide +kernel
theorem d_MD_decides_1 : decode b_MD_decides 1 = .ok (.getfield 19, 3) := by decide +kernel
theorem d_MD_decides_4 : decode b_MD_decides 4 = .ok (.iload_n 1, 1) := by decide +kernel
theorem d_MD_decides_5 : decode b_MD_decides 5 = .ok (.iaload, 1) := by decide +kernel
theorem d_MD_decides_6 : decode b_MD_decides 6 = .ok (.istore 4, 2) := by decide +kernel
theorem d_MD_decides_8 : decode b_MD_decides 8 = .ok (.iload 4, 2) := by decide +kernel
theorem d_MD_decides_10 : decode b_MD_decides 10 = .ok (.ifCond .le 23, 3) := by decide +kernel
theorem d_MD_decides_13 : decode b_MD_decides 13 = .ok (.aload_n 0, 1) := by decide +kernel
theorem d_MD_decides_14 : decode b_MD_decides 14 = .ok (.iload_n 1, 1) := by decide +kernel
theorem d_MD_decides_15 : decode b_MD_decides 15 = .ok (.iload_n 2, 1) := by decide +kernel
theorem d_MD_decides_16 : decode b_MD_decides 16 = .ok (.iload_n 3, 1) := by decide +kernel
theorem d_MD_decides_17 : decode b_MD_decides 17 = .ok (.iload 4, 2) := by decide +kernel
theorem d_MD_decides_19 : decode b_MD_decides 19 = .ok (.iconst 1, 1) := by decide +kernel
theorem d_MD_decides_20 : decode b_MD_decides 20 = .ok (.isub, 1) := by decide +kernel
theorem d_MD_decides_21 : decode b_MD_decides 21 = .ok (.invokevirtual 173, 3) := by decide +kernel
theorem d_MD_decides_24 : decode b_MD_decides 24 = .ok (.ifCond .ne 9, 3) := by decide +kernel
theorem d_MD_decides_27 : decode b_MD_decides 27 = .ok (.iinc 4 (-1), 3) := by decide +kernel
theorem d_MD_decides_30 : decode b_MD_decides 30 = .ok (.goto (-22), 3) := by decide +kernel
theorem d_MD_decides_33 : decode b_MD_decides 33 = .ok (.iload 4, 2) := by decide +kernel
theorem d_MD_decides_35 : decode b_MD_decides 35 = .ok (.ireturn, 1) := by decide +kernel
theorem d_MD_tariffOf_0 : decode b_MD_tariffOf 0 = .ok (.aload_n 0, 1) := by decide +kernel
theorem d_MD_tariffOf_1 : decode b_MD_tariffOf 1 = .ok (.iload_n 1, 1) := by decide +kernel
theorem d_MD_tariffOf_2 : decode b_MD_tariffOf 2 = .ok (.iload_n 2, 1) := by decide +kernel
theorem d_MD_tariffOf_3 : decode b_MD_tariffOf 3 = .ok (.iload_n 3, 1) := by decide +kernel
theorem d_MD_tariffOf_4 : decode b_MD_tariffOf 4 = .ok (.invokevirtual 177, 3) := by decide +kernel
theorem d_MD_tariffOf_7 : decode b_MD_tariffOf 7 = .ok (.istore 4, 2) := by decide +kernel
theorem d_MD_tariffOf_9 : decode b_MD_tariffOf 9 = .ok (.iload 4, 2) := by decide +kernel
theorem d_MD_tariffOf_11 : decode b_MD_tariffOf 11 = .ok (.ifCond .ne 7, 3) := by decide +kernel
theorem d_MD_tariffOf_14 : decode b_MD_tariffOf 14 = .ok (.iconst 0, 1) := by decide +kernel
theorem d_MD_tariffOf_15 : decode b_MD_tariffOf 15 = .ok (.goto 17, 3) := by decide +kernel
theorem d_MD_tariffOf_18 : decode b_MD_tariffOf 18 = .ok (.aload_n 0, 1) := by decide +kernel
theorem d_MD_tariffOf_19 : decode b_MD_tariffOf 19 = .ok (.getfield 22, 3) := by decide +kernel
theorem d_MD_tariffOf_22 : decode b_MD_tariffOf 22 = .ok (.bipush 12, 2) := by decide +kernel
theorem d_MD_tariffOf_24 : decode b_MD_tariffOf 24 = .ok (.iload_n 1, 1) := by decide +kernel
theorem d_MD_tariffOf_25 : decode b_MD_tariffOf 25 = .ok (.imul, 1) := by decide +kernel
theorem d_MD_tariffOf_26 : decode b_MD_tariffOf 26 = .ok (.iload 4, 2) := by decide +kernel
theorem d_MD_tariffOf_28 : decode b_MD_tariffOf 28 = .ok (.iadd, 1) := by decide +kernel
theorem d_MD_tariffOf_29 : decode b_MD_tariffOf 29 = .ok (.iconst 1, 1) := by decide +kernel
theorem d_MD_tariffOf_30 : decode b_MD_tariffOf 30 = .ok (.isub, 1) := by decide +kernel
theorem d_MD_tariffOf_31 : decode b_MD_tariffOf 31 = .ok (.iaload, 1) := by decide +kernel
theorem d_MD_tariffOf_32 : decode b_MD_tariffOf 32 = .ok (.ireturn, 1) := by decide +kernel
theorem d_MD_wrong_0 : decode b_MD_wrong 0 = .ok (.iload_n 1, 1) := by decide +kernel
theorem d_MD_wrong_1 : decode b_MD_wrong 1 = .ok (.ifCond .lt 33, 3) := by decide +kernel
theorem d_MD_wrong_4 : decode b_MD_wrong 4 = .ok (.iload_n 1, 1) := by decide +kernel
theorem d_MD_wrong_5 : decode b_MD_wrong 5 = .ok (.iconst 2, 1) := by decide +kernel
theorem d_MD_wrong_6 : decode b_MD_wrong 6 = .ok (.if_icmp .gt 28, 3) := by decide +kernel
theorem d_MD_wrong_9 : decode b_MD_wrong 9 = .ok (.iload_n 2, 1) := by decide +kernel
theorem d_MD_wrong_10 : decode b_MD_wrong 10 = .ok (.ifCond .lt 24, 3) := by decide +kernel
theorem d_MD_wrong_13 : decode b_MD_wrong 13 = .ok (.iload_n 2, 1) := by decide +kernel
theorem d_MD_wrong_14 : decode b_MD_wrong 14 = .ok (.sipush 1461, 3) := by decide +kernel
theorem d_MD_wrong_17 : decode b_MD_wrong 17 = .ok (.if_icmp .ge 17, 3) := by decide +kernel
theorem d_MD_wrong_20 : decode b_MD_wrong 20 = .ok (.iload_n 3, 1) := by decide +kernel
theorem d_MD_wrong_21 : decode b_MD_wrong 21 = .ok (.ifCond .lt 13, 3) := by decide +kernel
theorem d_MD_wrong_24 : decode b_MD_wrong 24 = .ok (.iload_n 3, 1) := by decide +kernel
theorem d_MD_wrong_25 : decode b_MD_wrong 25 = .ok (.bipush 48, 2) := by decide +kernel
theorem d_MD_wrong_27 : decode b_MD_wrong 27 = .ok (.if_icmp .ge 7, 3) := by decide +kernel
theorem d_MD_wrong_30 : decode b_MD_wrong 30 = .ok (.iconst 1, 1) := by decide +kernel
theorem d_MD_wrong_31 : decode b_MD_wrong 31 = .ok (.goto 4, 3) := by decide +kernel
theorem d_MD_wrong_34 : decode b_MD_wrong 34 = .ok (.iconst 0, 1) := by decide +kernel
theorem d_MD_wrong_35 : decode b_MD_wrong 35 = .ok (.istore 4, 2) := by decide +kernel
theorem d_MD_wrong_37 : decode b_MD_wrong 37 = .ok (.iload 4, 2) := by decide +kernel
theorem d_MD_wrong_39 : decode b_MD_wrong 39 = .ok (.ifCond .ne 7, 3) := by decide +kernel
theorem d_MD_wrong_42 : decode b_MD_wrong 42 = .ok (.iconst 1, 1) := by decide +kernel
theorem d_MD_wrong_43 : decode b_MD_wrong 43 = .ok (.goto 17, 3) := by decide +kernel
theorem d_MD_wrong_46 : decode b_MD_wrong 46 = .ok (.aload_n 0, 1) := by decide +kernel
theorem d_MD_wrong_47 : decode b_MD_wrong 47 = .ok (.getfield 19, 3) := by decide +kernel
theorem d_MD_wrong_50 : decode b_MD_wrong 50 = .ok (.iload_n 1, 1) := by decide +kernel
theorem d_MD_wrong_51 : decode b_MD_wrong 51 = .ok (.iaload, 1) := by decide +kernel
theorem d_MD_wrong_52 : decode b_MD_wrong 52 = .ok (.ifCond .ne 7, 3) := by decide +kernel
theorem d_MD_wrong_55 : decode b_MD_wrong 55 = .ok (.iconst 2, 1) := by decide +kernel
theorem d_MD_wrong_56 : decode b_MD_wrong 56 = .ok (.goto 4, 3) := by decide +kernel
theorem d_MD_wrong_59 : decode b_MD_wrong 59 = .ok (.iconst 0, 1) := by decide +kernel
theorem d_MD_wrong_60 : decode b_MD_wrong 60 = .ok (.ireturn, 1) := by decide +kernel
theorem d_MD_wrongTwo_0 : decode b_MD_wrongTwo 0 = .ok (.iload_n 1, 1) := by decide +kernel
theorem d_MD_wrongTwo_1 : decode b_MD_wrongTwo 1 = .ok (.ifCond .lt 21, 3) := by decide +kernel
theorem d_MD_wrongTwo_4 : decode b_MD_wrongTwo 4 = .ok (.iload_n 1, 1) := by decide +kernel
theorem d_MD_wrongTwo_5 : decode b_MD_wrongTwo 5 = .ok (.iconst 2, 1) := by decide +kernel
theorem d_MD_wrongTwo_6 : decode b_MD_wrongTwo 6 = .ok (.if_icmp .gt 16, 3) := by decide +kernel
theorem d_MD_wrongTwo_9 : decode b_MD_wrongTwo 9 = .ok (.iload_n 2, 1) := by decide +kernel
theorem d_MD_wrongTwo_10 : decode b_MD_wrongTwo 10 = .ok (.ifCond .lt 12, 3) := by decide +kernel
theorem d_MD_wrongTwo_13 : decode b_MD_wrongTwo 13 = .ok (.iload_n 2, 1) := by decide +kernel
theorem d_MD_wrongTwo_14 : decode b_MD_wrongTwo 14 = .ok (.iconst 2, 1) := by decide +kernel
theorem d_MD_wrongTwo_15 : decode b_MD_wrongTwo 15 = .ok (.if_icmp .gt 7, 3) := by decide +kernel
theorem d_MD_wrongTwo_18 : decode b_MD_wrongTwo 18 = .ok (.iconst 1, 1) := by decide +kernel
theorem d_MD_wrongTwo_19 : decode b_MD_wrongTwo 19 = .ok (.goto 4, 3) := by decide +kernel
theorem d_MD_wrongTwo_22 : decode b_MD_wrongTwo 22 = .ok (.iconst 0, 1) := by decide +kernel
theorem d_MD_wrongTwo_23 : decode b_MD_wrongTwo 23 = .ok (.istore_n 3, 1) := by decide +kernel
theorem d_MD_wrongTwo_24 : decode b_MD_wrongTwo 24 = .ok (.iload_n 3, 1) := by decide +kernel
theorem d_MD_wrongTwo_25 : decode b_MD_wrongTwo 25 = .ok (.ifCond .ne 7, 3) := by decide +kernel
theorem d_MD_wrongTwo_28 : decode b_MD_wrongTwo 28 = .ok (.iconst 1, 1) := by decide +kernel
theorem d_MD_wrongTwo_29 : decode b_MD_wrongTwo 29 = .ok (.goto 26, 3) := by decide +kernel
theorem d_MD_wrongTwo_32 : decode b_MD_wrongTwo 32 = .ok (.aload_n 0, 1) := by decide +kernel
theorem d_MD_wrongTwo_33 : decode b_MD_wrongTwo 33 = .ok (.getfield 19, 3) := by decide +kernel
theorem d_MD_wrongTwo_36 : decode b_MD_wrongTwo 36 = .ok (.iload_n 1, 1) := by decide +kernel
theorem d_MD_wrongTwo_37 : decode b_MD_wrongTwo 37 = .ok (.iaload, 1) := by decide +kernel
theorem d_MD_wrongTwo_38 : decode b_MD_wrongTwo 38 = .ok (.ifCond .eq 12, 3) := by decide +kernel
theorem d_MD_wrongTwo_41 : decode b_MD_wrongTwo 41 = .ok (.aload_n 0, 1) := by decide +kernel
theorem d_MD_wrongTwo_42 : decode b_MD_wrongTwo 42 = .ok (.getfield 19, 3) := by decide +kernel
theorem d_MD_wrongTwo_45 : decode b_MD_wrongTwo 45 = .ok (.iload_n 2, 1) := by decide +kernel
theorem d_MD_wrongTwo_46 : decode b_MD_wrongTwo 46 = .ok (.iaload, 1) := by decide +kernel
theorem d_MD_wrongTwo_47 : decode b_MD_wrongTwo 47 = .ok (.ifCond .ne 7, 3) := by decide +kernel
theorem d_MD_wrongTwo_50 : decode b_MD_wrongTwo 50 = .ok (.iconst 2, 1) := by decide +kernel
theorem d_MD_wrongTwo_51 : decode b_MD_wrongTwo 51 = .ok (.goto 4, 3) := by decide +kernel
theorem d_MD_wrongTwo_54 : decode b_MD_wrongTwo 54 = .ok (.iconst 0, 1) := by decide +kernel
theorem d_MD_wrongTwo_55 : decode b_MD_wrongTwo 55 = .ok (.ireturn, 1) := by decide +kernel
