theorem d_MD_week_0 : decode b_MD_week 0 = .ok (.iload_n 1, 1) := by decide +kernel
theorem d_MD_week_1 : decode b_MD_week 1 = .ok (.iconst 4, 1) := by decide +kernel
theorem d_MD_week_2 : decode b_MD_week 2 = .ok (.iadd, 1) := by decide +kernel
theorem d_MD_week_3 : decode b_MD_week 3 = .ok (.iload_n 1, 1) := by decide +kernel
theorem d_MD_week_4 : decode b_MD_week 4 = .ok (.invokestatic 79, 3) := by decide +kernel
theorem d_MD_week_7 : decode b_MD_week 7 = .ok (.isub, 1) := by decide +kernel
theorem d_MD_week_8 : decode b_MD_week 8 = .ok (.istore_n 2, 1) := by decide +kernel
theorem d_MD_week_9 : decode b_MD_week 9 = .ok (.iload_n 2, 1) := by decide +kernel
theorem d_MD_week_10 : decode b_MD_week 10 = .ok (.ifCond .ge 9, 3) := by decide +kernel
theorem d_MD_week_13 : decode b_MD_week 13 = .ok (.sipush 1999, 3) := by decide +kernel
theorem d_MD_week_16 : decode b_MD_week 16 = .ok (.goto 26, 3) := by decide +kernel
theorem d_MD_week_19 : decode b_MD_week 19 = .ok (.iload_n 2, 1) := by decide +kernel
theorem d_MD_week_20 : decode b_MD_week 20 = .ok (.sipush 1461, 3) := by decide +kernel
theorem d_MD_week_23 : decode b_MD_week 23 = .ok (.if_icmp .lt 9, 3) := by decide +kernel
theorem d_MD_week_26 : decode b_MD_week 26 = .ok (.sipush 2004, 3) := by decide +kernel
theorem d_MD_week_29 : decode b_MD_week 29 = .ok (.goto 13, 3) := by decide +kernel
theorem d_MD_week_32 : decode b_MD_week 32 = .ok (.aload_n 0, 1) := by decide +kernel
theorem d_MD_week_33 : decode b_MD_week 33 = .ok (.getfield 13, 3) := by decide +kernel
theorem d_MD_week_36 : decode b_MD_week 36 = .ok (.iload_n 2, 1) := by decide +kernel
theorem d_MD_week_37 : decode b_MD_week 37 = .ok (.iaload, 1) := by decide +kernel
theorem d_MD_week_38 : decode b_MD_week 38 = .ok (.sipush 10000, 3) := by decide +kernel
theorem d_MD_week_41 : decode b_MD_week 41 = .ok (.idiv, 1) := by decide +kernel
theorem d_MD_week_42 : decode b_MD_week 42 = .ok (.istore_n 3, 1) := by decide +kernel
theorem d_MD_week_43 : decode b_MD_week 43 = .ok (.iload_n 3, 1) := by decide +kernel
theorem d_MD_week_44 : decode b_MD_week 44 = .ok (.sipush 1999, 3) := by decide +kernel
theorem d_MD_week_47 : decode b_MD_week 47 = .ok (.if_icmp .ne 9, 3) := by decide +kernel
theorem d_MD_week_50 : decode b_MD_week 50 = .ok (.sipush (-365), 3) := by decide +kernel
theorem d_MD_week_53 : decode b_MD_week 53 = .ok (.goto 56, 3) := by decide +kernel
theorem d_MD_week_56 : decode b_MD_week 56 = .ok (.iload_n 3, 1) := by decide +kernel
theorem d_MD_week_57 : decode b_MD_week 57 = .ok (.sipush 2000, 3) := by decide +kernel
theorem d_MD_week_60 : decode b_MD_week 60 = .ok (.if_icmp .ne 7, 3) := by decide +kernel
theorem d_MD_week_63 : decode b_MD_week 63 = .ok (.iconst 0, 1) := by decide +kernel
theorem d_MD_week_64 : decode b_MD_week 64 = .ok (.goto 45, 3) := by decide +kernel
theorem d_MD_week_67 : decode b_MD_week 67 = .ok (.iload_n 3, 1) := by decide +kernel
theorem d_MD_week_68 : decode b_MD_week 68 = .ok (.sipush 2001, 3) := by decide +kernel
theorem d_MD_week_71 : decode b_MD_week 71 = .ok (.if_icmp .ne 9, 3) := by decide +kernel
theorem d_MD_week_74 : decode b_MD_week 74 = .ok (.sipush 366, 3) := by decide +kernel
theorem d_MD_week_77 : decode b_MD_week 77 = .ok (.goto 32, 3) := by decide +kernel
theorem d_MD_week_80 : decode b_MD_week 80 = .ok (.iload_n 3, 1) := by decide +kernel
theorem d_MD_week_81 : decode b_MD_week 81 = .ok (.sipush 2002, 3) := by decide +kernel
theorem d_MD_week_84 : decode b_MD_week 84 = .ok (.if_icmp .ne 9, 3) := by decide +kernel
theorem d_MD_week_87 : decode b_MD_week 87 = .ok (.sipush 731, 3) := by decide +kernel
theorem d_MD_week_90 : decode b_MD_week 90 = .ok (.goto 19, 3) := by decide +kernel
theorem d_MD_week_93 : decode b_MD_week 93 = .ok (.iload_n 3, 1) := by decide +kernel
theorem d_MD_week_94 : decode b_MD_week 94 = .ok (.sipush 2003, 3) := by decide +kernel
theorem d_MD_week_97 : decode b_MD_week 97 = .ok (.if_icmp .ne 9, 3) := by decide +kernel
theorem d_MD_week_100 : decode b_MD_week 100 = .ok (.sipush 1096, 3) := by decide +kernel
theorem d_MD_week_103 : decode b_MD_week 103 = .ok (.goto 6, 3) := by decide +kernel
theorem d_MD_week_106 : decode b_MD_week 106 = .ok (.sipush 1461, 3) := by decide +kernel
theorem d_MD_week_109 : decode b_MD_week 109 = .ok (.istore 4, 2) := by decide +kernel
theorem d_MD_week_111 : decode b_MD_week 111 = .ok (.bipush 100, 2) := by decide +kernel
theorem d_MD_week_113 : decode b_MD_week 113 = .ok (.iload_n 3, 1) := by decide +kernel
theorem d_MD_week_114 : decode b_MD_week 114 = .ok (.imul, 1) := by decide +kernel
theorem d_MD_week_115 : decode b_MD_week 115 = .ok (.iload_n 2, 1) := by decide +kernel
theorem d_MD_week_116 : decode b_MD_week 116 = .ok (.iload 4, 2) := by decide +kernel
theorem d_MD_week_118 : decode b_MD_week 118 = .ok (.isub, 1) := by decide +kernel
theorem d_MD_week_119 : decode b_MD_week 119 = .ok (.bipush 7, 2) := by decide +kernel
theorem d_MD_week_121 : decode b_MD_week 121 = .ok (.idiv, 1) := by decide +kernel
theorem d_MD_week_122 : decode b_MD_week 122 = .ok (.iadd, 1) := by decide +kernel
theorem d_MD_week_123 : decode b_MD_week 123 = .ok (.iconst 1, 1) := by decide +kernel
theorem d_MD_week_124 : decode b_MD_week 124 = .ok (.iadd, 1) := by decide +kernel
theorem d_MD_week_125 : decode b_MD_week 125 = .ok (.ireturn, 1) := by decide +kernel
theorem d_MD_find_0 : decode b_MD_find 0 = .ok (.iconst (-1), 1) := by decide +kernel
theorem d_MD_find_1 : decode b_MD_find 1 = .ok (.istore_n 2, 1) := by decide +kernel
theorem d_MD_find_2 : decode b_MD_find 2 = .ok (.iconst 0, 1) := by decide +kernel
theorem d_MD_find_3 : decode b_MD_find 3 = .ok (.istore_n 3, 1) := by decide +kernel
theorem d_MD_find_4 : decode b_MD_find 4 = .ok (.iload_n 3, 1) := by decide +kernel
theorem d_MD_find_5 : decode b_MD_find 5 = .ok (.sipush 1461, 3) := by decide +kernel
theorem d_MD_find_8 : decode b_MD_find 8 = .ok (.if_icmp .ge 25, 3) := by decide +kernel
theorem d_MD_find_11 : decode b_MD_find 11 = .ok (.aload_n 0, 1) := by decide +kernel
theorem d_MD_find_12 : decode b_MD_find 12 = .ok (.getfield 13, 3) := by decide +kernel
theorem d_MD_find_15 : decode b_MD_find 15 = .ok (.iload_n 3, 1) := by decide +kernel
theorem d_MD_find_16 : decode b_MD_find 16 = .ok (.iaload, 1) := by decide +kernel
theorem d_MD_find_17 : decode b_MD_find 17 = .ok (.iload_n 1, 1) := by decide +kernel
theorem d_MD_find_18 : decode b_MD_find 18 = .ok (.if_icmp .ne 7, 3) := by decide +kernel
theorem d_MD_find_21 : decode b_MD_find 21 = .ok (.iload_n 3, 1) := by decide +kernel
theorem d_MD_find_22 : decode b_MD_find 22 = .ok (.goto 4, 3) := by decide +kernel
theorem d_MD_find_25 : decode b_MD_find 25 = .ok (.iload_n 2, 1) := by decide +kernel
theorem d_MD_find_26 : decode b_MD_find 26 = .ok (.istore_n 2, 1) := by decide +kernel
theorem d_MD_find_27 : decode b_MD_find 27 = .ok (.iinc 3 1, 3) := by decide +kernel
theorem d_MD_find_30 : decode b_MD_find 30 = .ok (.goto (-26), 3) := by decide +kernel
theorem d_MD_find_33 : decode b_MD_find 33 = .ok (.iload_n 2, 1) := by decide +kernel
theorem d_MD_find_34 : decode b_MD_find 34 = .ok (.ireturn, 1) := by decide +kernel
theorem d_MD_shifts_0 : decode b_MD_shifts 0 = .ok (.aload_n 0, 1) := by decide +kernel
theorem d_MD_shifts_1 : decode b_MD_shifts 1 = .ok (.iconst 0, 1) := by decide +kernel
theorem d_MD_shifts_2 : decode b_MD_shifts 2 = .ok (.putfield 75, 3) := by decide +kernel
theorem d_MD_shifts_5 : decode b_MD_shifts 5 = .ok (.aload_n 0, 1) := by decide +kernel
theorem d_MD_shifts_6 : decode b_MD_shifts 6 = .ok (.iload_n 1, 1) := by decide +kernel
theorem d_MD_shifts_7 : decode b_MD_shifts 7 = .ok (.putfield 82, 3) := by decide +kernel
theorem d_MD_shifts_10 : decode b_MD_shifts 10 = .ok (.return_, 1) := by decide +kernel
theorem d_MD_type_0 : decode b_MD_type 0 = .ok (.aload_n 0, 1) := by decide +kernel
theorem d_MD_type_1 : decode b_MD_type 1 = .ok (.iconst 0, 1) := by decide +kernel
theorem d_MD_type_2 : decode b_MD_type 2 = .ok (.putfield 75, 3) := by decide +kernel
theorem d_MD_type_5 : decode b_MD_type 5 = .ok (.iload_n 1, 1) := by decide +kernel
theorem d_MD_type_6 : decode b_MD_type 6 = .ok (.bipush 32, 2) := by decide +kernel
theorem d_MD_type_8 : decode b_MD_type 8 = .ok (.if_icmp .lt 18, 3) := by decide +kernel
theorem d_MD_type_11 : decode b_MD_type 11 = .ok (.iload_n 1, 1) := by decide +kernel
theorem d_MD_type_12 : decode b_MD_type 12 = .ok (.bipush 126, 2) := by decide +kernel
theorem d_MD_type_14 : decode b_MD_type 14 = .ok (.if_icmp .gt 12, 3) := by decide +kernel
theorem d_MD_type_17 : decode b_MD_type 17 = .ok (.aload_n 0, 1) := by decide +kernel
theorem d_MD_type_18 : decode b_MD_type 18 = .ok (.getfield 147, 3) := by decide +kernel
theorem d_MD_type_21 : decode b_MD_type 21 = .ok (.bipush 100, 2) := by decide +kernel
theorem d_MD_type_23 : decode b_MD_type 23 = .ok (.if_icmp .ne 5, 3) := by decide +kernel
theorem d_MD_type_26 : decode b_MD_type 26 = .ok (.iconst 0, 1) := by decide +kernel
theorem d_MD_type_27 : decode b_MD_type 27 = .ok (.ireturn, 1) := by decide +kernel
theorem d_MD_type_28 : decode b_MD_type 28 = .ok (.aload_n 0, 1) := by decide +kernel
theorem d_MD_type_29 : decode b_MD_type 29 = .ok (.getfield 7, 3) := by decide +kernel
theorem d_MD_type_32 : decode b_MD_type 32 = .ok (.aload_n 0, 1) := by decide +kernel
theorem d_MD_type_33 : decode b_MD_type 33 = .ok (.getfield 147, 3) := by decide +kernel
theorem d_MD_type_36 : decode b_MD_type 36 = .ok (.iload_n 1, 1) := by decide +kernel
theorem d_MD_type_37 : decode b_MD_type 37 = .ok (.iastore, 1) := by decide +kernel
theorem d_MD_type_38 : decode b_MD_type 38 = .ok (.aload_n 0, 1) := by decide +kernel
theorem d_MD_type_39 : decode b_MD_type 39 = .ok (.dup, 1) := by decide +kernel
theorem d_MD_type_40 : decode b_MD_type 40 = .ok (.getfield 147, 3) := by decide +kernel
theorem d_MD_type_43 : decode b_MD_type 43 = .ok (.iconst 1, 1) := by decide +kernel
theorem d_MD_type_44 : decode b_MD_type 44 = .ok (.iadd, 1) := by decide +kernel
theorem d_MD_type_45 : decode b_MD_type 45 = .ok (.putfield 147, 3) := by decide +kernel
theorem d_MD_type_48 : decode b_MD_type 48 = .ok (.iconst 1, 1) := by decide +kernel
theorem d_MD_type_49 : decode b_MD_type 49 = .ok (.ireturn, 1) := by decide +kernel
theorem d_MD_wipe_0 : decode b_MD_wipe 0 = .ok (.aload_n 0, 1) := by decide +kernel
theorem d_MD_wipe_1 : decode b_MD_wipe 1 = .ok (.iconst 0, 1) := by decide +kernel
theorem d_MD_wipe_2 : decode b_MD_wipe 2 = .ok (.putfield 75, 3) := by decide +kernel
theorem d_MD_wipe_5 : decode b_MD_wipe 5 = .ok (.aload_n 0, 1) := by decide +kernel
theorem d_MD_wipe_6 : decode b_MD_wipe 6 = .ok (.getfield 147, 3) := by decide +kernel
theorem d_MD_wipe_9 : decode b_MD_wipe 9 = .ok (.istore_n 1, 1) := by decide +kernel
theorem d_MD_wipe_10 : decode b_MD_wipe 10 = .ok (.aload_n 0, 1) := by decide +kernel
theorem d_MD_wipe_11 : decode b_MD_wipe 11 = .ok (.iconst 0, 1) := by decide +kernel
theorem d_MD_wipe_12 : decode b_MD_wipe 12 = .ok (.putfield 147, 3) := by decide +kernel
theorem d_MD_wipe_15 : decode b_MD_wipe 15 = .ok (.iload_n 1, 1) := by decide +kernel
theorem d_MD_wipe_16 : decode b_MD_wipe 16 = .ok (.ireturn, 1) := by decide +kernel
theorem d_MD_at_0 : decode b_MD_at 0 = .ok (.aload_n 0, 1) := by decide +kernel
theorem d_MD_at_1 : decode b_MD_at 1 = .ok (.aload_n 0, 1) := by decide +kernel
theorem d_MD_at_2 : decode b_MD_at 2 = .ok (.iload_n 1, 1) := by decide +kernel
theorem d_MD_at_3 : decode b_MD_at 3 = .ok (.iload_n 2, 1) := by decide +kernel
theorem d_MD_at_4 : decode b_MD_at 4 = .ok (.iload_n 3, 1) := by decide +kernel
theorem d_MD_at_5 : decode b_MD_at 5 = .ok (.invokevirtual 180, 3) := by decide +kernel
theorem d_MD_at_8 : decode b_MD_at 8 = .ok (.invokevirtual 159, 3) := by decide +kernel
theorem d_MD_at_11 : decode b_MD_at 11 = .ok (.ifCond .eq 5, 3) := by decide +kernel
theorem d_MD_at_14 : decode b_MD_at 14 = .ok (.iconst 0, 1) := by decide +kernel
theorem d_MD_at_15 : decode b_MD_at 15 = .ok (.ireturn, 1) := by decide +kernel
theorem d_MD_at_16 : decode b_MD_at 16 = .ok (.aload_n 0, 1) := by decide +kernel
theorem d_MD_at_17 : decode b_MD_at 17 = .ok (.iload_n 2, 1) := by decide +kernel
theorem d_MD_at_18 : decode b_MD_at 18 = .ok (.iload_n 3, 1) := by decide +kernel
theorem d_MD_at_19 : decode b_MD_at 19 = .ok (.invokevirtual 183, 3) := by decide +kernel
theorem d_MD_at_22 : decode b_MD_at 22 = .ok (.ifCond .eq 7, 3) := by decide +kernel
theorem d_MD_at_25 : decode b_MD_at 25 = .ok (.iconst (-1), 1) := by decide +kernel
theorem d_MD_at_26 : decode b_MD_at 26 = .ok (.goto 10, 3) := by decide +kernel
theorem d_MD_at_29 : decode b_MD_at 29 = .ok (.aload_n 0, 1) := by decide +kernel
theorem d_MD_at_30 : decode b_MD_at 30 = .ok (.iload_n 1, 1) := by decide +kernel
theorem d_MD_at_31 : decode b_MD_at 31 = .ok (.iload_n 2, 1) := by decide +kernel
theorem d_MD_at_32 : decode b_MD_at 32 = .ok (.iload_n 3, 1) := by decide +kernel
theorem d_MD_at_33 : decode b_MD_at 33 = .ok (.invokevirtual 186, 3) := by decide +kernel
theorem d_MD_at_36 : decode b_MD_at 36 = .ok (.ireturn, 1) := by decide +kernel
theorem d_MD_which_0 : decode b_MD_which 0 = .ok (.aload_n 0, 1) := by decide +kernel
theorem d_MD_which_1 : decode b_MD_which 1 = .ok (.aload_n 0, 1) := by decide +kernel
theorem d_MD_which_2 : decode b_MD_which 2 = .ok (.iload_n 1, 1) := by decide +kernel
theorem d_MD_which_3 : decode b_MD_which 3 = .ok (.iload_n 2, 1) := by decide +kernel
theorem d_MD_which_4 : decode b_MD_which 4 = .ok (.iload_n 3, 1) := by decide +kernel
theorem d_MD_which_5 : decode b_MD_which 5 = .ok (.invokevirtual 180, 3) := by decide +kernel
theorem d_MD_which_8 : decode b_MD_which 8 = .ok (.invokevirtual 159, 3) := by decide +kernel
theorem d_MD_which_11 : decode b_MD_which 11 = .ok (.ifCond .eq 5, 3) := by decide +kernel
theorem d_MD_which_14 : decode b_MD_which 14 = .ok (.iconst 0, 1) := by decide +kernel
theorem d_MD_which_15 : decode b_MD_which 15 = .ok (.ireturn, 1) := by decide +kernel
theorem d_MD_which_16 : decode b_MD_which 16 = .ok (.aload_n 0, 1) := by decide +kernel
theorem d_MD_which_17 : decode b_MD_which 17 = .ok (.iload_n 2, 1) := by decide +kernel
theorem d_MD_which_18 : decode b_MD_which 18 = .ok (.iload_n 3, 1) := by decide +kernel
theorem d_MD_which_19 : decode b_MD_which 19 = .ok (.invokevirtual 183, 3) := by decide +kernel
theorem d_MD_which_22 : decode b_MD_which 22 = .ok (.ifCond .eq 7, 3) := by decide +kernel
theorem d_MD_which_25 : decode b_MD_which 25 = .ok (.iconst (-1), 1) := by decide +kernel
theorem d_MD_which_26 : decode b_MD_which 26 = .ok (.goto 10, 3) := by decide +kernel
theorem d_MD_which_29 : decode b_MD_which 29 = .ok (.aload_n 0, 1) := by decide +kernel
theorem d_MD_which_30 : decode b_MD_which 30 = .ok (.iload_n 1, 1) := by decide +kernel
theorem d_MD_which_31 : decode b_MD_which 31 = .ok (.iload_n 2, 1) := by decide +kernel
theorem d_MD_which_32 : decode b_MD_which 32 = .ok (.iload_n 3, 1) := by decide +kernel
theorem d_MD_which_33 : decode b_MD_which 33 = .ok (.invokevirtual 177, 3) := by decide +kernel
theorem d_MD_which_36 : decode b_MD_which 36 = .ok (.ireturn, 1) := by decide +kernel
theorem d_MD_timeOf_0 : decode b_MD_timeOf 0 = .ok (.iconst 0, 1) := by decide +kernel
theorem d_MD_timeOf_1 : decode b_MD_timeOf 1 = .ok (.istore 4, 2) := by decide +kernel
theorem d_MD_timeOf_3 : decode b_MD_timeOf 3 = .ok (.iconst 0, 1) := by decide +kernel
theorem d_MD_timeOf_4 : decode b_MD_timeOf 4 = .ok (.istore 5, 2) := by decide +kernel
theorem d_MD_timeOf_6 : decode b_MD_timeOf 6 = .ok (.iload 5, 2) := by decide +kernel
theorem d_MD_timeOf_8 : decode b_MD_timeOf 8 = .ok (.iload_n 1, 1) := by decide +kernel
theorem d_MD_timeOf_9 : decode b_MD_timeOf 9 = .ok (.if_icmp .ge 48, 3) := by decide +kernel
theorem d_MD_timeOf_12 : decode b_MD_timeOf 12 = .ok (.iload 4, 2) := by decide +kernel
theorem d_MD_timeOf_14 : decode b_MD_timeOf 14 = .ok (.bipush 48, 2) := by decide +kernel
theorem d_MD_timeOf_16 : decode b_MD_timeOf 16 = .ok (.iadd, 1) := by decide +kernel
theorem d_MD_timeOf_17 : decode b_MD_timeOf 17 = .ok (.aload_n 0, 1) := by decide +kernel
theorem d_MD_timeOf_18 : decode b_MD_timeOf 18 = .ok (.iload 5, 2) := by decide +kernel
theorem d_MD_timeOf_20 : decode b_MD_timeOf 20 = .ok (.iconst 4, 1) := by decide +kernel
theorem d_MD_timeOf_21 : decode b_MD_timeOf 21 = .ok (.invokevirtual 183, 3) := by decide +kernel
theorem d_MD_timeOf_24 : decode b_MD_timeOf 24 = .ok (.ifCond .eq 7, 3) := by decide +kernel
theorem d_MD_timeOf_27 : decode b_MD_timeOf 27 = .ok (.iconst 2, 1) := by decide +kernel
theorem d_MD_timeOf_28 : decode b_MD_timeOf 28 = .ok (.goto 4, 3) := by decide +kernel
theorem d_MD_timeOf_31 : decode b_MD_timeOf 31 = .ok (.iconst 0, 1) := by decide +kernel
theorem d_MD_timeOf_32 : decode b_MD_timeOf 32 = .ok (.isub, 1) := by decide +kernel
theorem d_MD_timeOf_33 : decode b_MD_timeOf 33 = .ok (.aload_n 0, 1) := by decide +kernel
theorem d_MD_timeOf_34 : decode b_MD_timeOf 34 = .ok (.iload 5, 2) := by decide +kernel
theorem d_MD_timeOf_36 : decode b_MD_timeOf 36 = .ok (.iconst 4, 1) := by decide +kernel
theorem d_MD_timeOf_37 : decode b_MD_timeOf 37 = .ok (.invokevirtual 189, 3) := by decide +kernel
theorem d_MD_timeOf_40 : decode b_MD_timeOf 40 = .ok (.ifCond .eq 7, 3) := by decide +kernel
theorem d_MD_timeOf_43 : decode b_MD_timeOf 43 = .ok (.iconst 2, 1) := by decide +kernel
theorem d_MD_timeOf_44 : decode b_MD_timeOf 44 = .ok (.goto 4, 3) := by decide +kernel
theorem d_MD_timeOf_47 : decode b_MD_timeOf 47 = .ok (.iconst 0, 1) := by decide +kernel
theorem d_MD_timeOf_48 : decode b_MD_timeOf 48 = .ok (.iadd, 1) := by decide +kernel
theorem d_MD_timeOf_49 : decode b_MD_timeOf 49 = .ok (.istore 4, 2) := by decide +kernel
theorem d_MD_timeOf_51 : decode b_MD_timeOf 51 = .ok (.iinc 5 1, 3) := by decide +kernel
theorem d_MD_timeOf_54 : decode b_MD_timeOf 54 = .ok (.goto (-48), 3) := by decide +kernel
theorem d_MD_timeOf_57 : decode b_MD_timeOf 57 = .ok (.aload_n 0, 1) := by decide +kernel
theorem d_MD_timeOf_58 : decode b_MD_timeOf 58 = .ok (.iload_n 1, 1) := by decide +kernel
theorem d_MD_timeOf_59 : decode b_MD_timeOf 59 = .ok (.iconst 4, 1) := by decide +kernel
theorem d_MD_timeOf_60 : decode b_MD_timeOf 60 = .ok (.invokevirtual 183, 3) := by decide +kernel
theorem d_MD_timeOf_63 : decode b_MD_timeOf 63 = .ok (.ifCond .eq 12, 3) := by decide +kernel
theorem d_MD_timeOf_66 : decode b_MD_timeOf 66 = .ok (.iload_n 2, 1) := by decide +kernel
theorem d_MD_timeOf_67 : decode b_MD_timeOf 67 = .ok (.iconst 5, 1) := by decide +kernel
theorem d_MD_timeOf_68 : decode b_MD_timeOf 68 = .ok (.if_icmp .le 7, 3) := by decide +kernel
theorem d_MD_timeOf_71 : decode b_MD_timeOf 71 = .ok (.iconst 2, 1) := by decide +kernel
theorem d_MD_timeOf_72 : decode b_MD_timeOf 72 = .ok (.goto 4, 3) := by decide +kernel
theorem d_MD_timeOf_75 : decode b_MD_timeOf 75 = .ok (.iconst 0, 1) := by decide +kernel
theorem d_MD_timeOf_76 : decode b_MD_timeOf 76 = .ok (.istore 5, 2) := by decide +kernel
theorem d_MD_timeOf_78 : decode b_MD_timeOf 78 = .ok (.aload_n 0, 1) := by decide +kernel
theorem d_MD_timeOf_79 : decode b_MD_timeOf 79 = .ok (.iload_n 1, 1) := by decide +kernel
theorem d_MD_timeOf_80 : decode b_MD_timeOf 80 = .ok (.iconst 4, 1) := by decide +kernel
theorem d_MD_timeOf_81 : decode b_MD_timeOf 81 = .ok (.invokevirtual 189, 3) := by decide +kernel
theorem d_MD_timeOf_84 : decode b_MD_timeOf 84 = .ok (.ifCond .eq 21, 3) := by decide +kernel
theorem d_MD_timeOf_87 : decode b_MD_timeOf 87 = .ok (.iload_n 2, 1) := by decide +kernel
theorem d_MD_timeOf_88 : decode b_MD_timeOf 88 = .ok (.iconst 5, 1) := by decide +kernel
theorem d_MD_timeOf_89 : decode b_MD_timeOf 89 = .ok (.if_icmp .gt 12, 3) := by decide +kernel
theorem d_MD_timeOf_92 : decode b_MD_timeOf 92 = .ok (.iload_n 3, 1) := by decide +kernel
theorem d_MD_timeOf_93 : decode b_MD_timeOf 93 = .ok (.ifCond .eq 12, 3) := by decide +kernel
theorem d_MD_timeOf_96 : decode b_MD_timeOf 96 = .ok (.iload_n 2, 1) := by decide +kernel
theorem d_MD_timeOf_97 : decode b_MD_timeOf 97 = .ok (.iconst 3, 1) := by decide +kernel
theorem d_MD_timeOf_98 : decode b_MD_timeOf 98 = .ok (.if_icmp .le 7, 3) := by decide +kernel
theorem d_MD_timeOf_101 : decode b_MD_timeOf 101 = .ok (.iconst 2, 1) := by decide +kernel
theorem d_MD_timeOf_102 : decode b_MD_timeOf 102 = .ok (.goto 4, 3) := by decide +kernel
theorem d_MD_timeOf_105 : decode b_MD_timeOf 105 = .ok (.iconst 0, 1) := by decide +kernel
theorem d_MD_timeOf_106 : decode b_MD_timeOf 106 = .ok (.istore 6, 2) := by decide +kernel
theorem d_MD_timeOf_108 : decode b_MD_timeOf 108 = .ok (.iload 4, 2) := by decide +kernel
theorem d_MD_timeOf_110 : decode b_MD_timeOf 110 = .ok (.iload_n 2, 1) := by decide +kernel
theorem d_MD_timeOf_111 : decode b_MD_timeOf 111 = .ok (.iadd, 1) := by decide +kernel
theorem d_MD_timeOf_112 : decode b_MD_timeOf 112 = .ok (.iload 5, 2) := by decide +kernel
theorem d_MD_timeOf_114 : decode b_MD_timeOf 114 = .ok (.isub, 1) := by decide +kernel
theorem d_MD_timeOf_115 : decode b_MD_timeOf 115 = .ok (.iload 6, 2) := by decide +kernel
theorem d_MD_timeOf_117 : decode b_MD_timeOf 117 = .ok (.iadd, 1) := by decide +kernel
theorem d_MD_timeOf_118 : decode b_MD_timeOf 118 = .ok (.ireturn, 1) := by decide +kernel
theorem d_MD_dayOf_0 : decode b_MD_dayOf 0 = .ok (.aload_n 0, 1) := by decide +kernel
theorem d_MD_dayOf_1 : decode b_MD_dayOf 1 = .ok (.iconst 0, 1) := by decide +kernel
theorem d_MD_dayOf_2 : decode b_MD_dayOf 2 = .ok (.putfield 75, 3) := by decide +kernel
theorem d_MD_dayOf_5 : decode b_MD_dayOf 5 = .ok (.iload_n 1, 1) := by decide +kernel
theorem d_MD_dayOf_6 : decode b_MD_dayOf 6 = .ok (.sipush 2000, 3) := by decide +kernel
theorem d_MD_dayOf_9 : decode b_MD_dayOf 9 = .ok (.if_icmp .lt 35, 3) := by decide +kernel
theorem d_MD_dayOf_12 : decode b_MD_dayOf 12 = .ok (.iload_n 1, 1) := by decide +kernel
theorem d_MD_dayOf_13 : decode b_MD_dayOf 13 = .ok (.sipush 2003, 3) := by decide +kernel
theorem d_MD_dayOf_16 : decode b_MD_dayOf 16 = .ok (.if_icmp .gt 28, 3) := by decide +kernel
theorem d_MD_dayOf_19 : decode b_MD_dayOf 19 = .ok (.iload_n 2, 1) := by decide +kernel
theorem d_MD_dayOf_20 : decode b_MD_dayOf 20 = .ok (.iconst 1, 1) := by decide +kernel
theorem d_MD_dayOf_21 : decode b_MD_dayOf 21 = .ok (.if_icmp .lt 23, 3) := by decide +kernel
theorem d_MD_dayOf_24 : decode b_MD_dayOf 24 = .ok (.iload_n 2, 1) := by decide +kernel
theorem d_MD_dayOf_25 : decode b_MD_dayOf 25 = .ok (.bipush 12, 2) := by decide +kernel
theorem d_MD_dayOf_27 : decode b_MD_dayOf 27 = .ok (.if_icmp .gt 17, 3) := by decide +kernel
theorem d_MD_dayOf_30 : decode b_MD_dayOf 30 = .ok (.iload_n 3, 1) := by decide +kernel
theorem d_MD_dayOf_31 : decode b_MD_dayOf 31 = .ok (.iconst 1, 1) := by decide +kernel
theorem d_MD_dayOf_32 : decode b_MD_dayOf 32 = .ok (.if_icmp .lt 12, 3) := by decide +kernel
theorem d_MD_dayOf_35 : decode b_MD_dayOf 35 = .ok (.iload_n 3, 1) := by decide +kernel
theorem d_MD_dayOf_36 : decode b_MD_dayOf 36 = .ok (.iload_n 1, 1) := by decide +kernel
theorem d_MD_dayOf_37 : decode b_MD_dayOf 37 = .ok (.iload_n 2, 1) := by decide +kernel
theorem d_MD_dayOf_38 : decode b_MD_dayOf 38 = .ok (.invokestatic 67, 3) := by decide +kernel
theorem d_MD_dayOf_41 : decode b_MD_dayOf 41 = .ok (.if_icmp .le 5, 3) := by decide +kernel
theorem d_MD_dayOf_44 : decode b_MD_dayOf 44 = .ok (.iconst (-1), 1) := by decide +kernel
theorem d_MD_dayOf_45 : decode b_MD_dayOf 45 = .ok (.ireturn, 1) := by decide +kernel
theorem d_MD_dayOf_46 : decode b_MD_dayOf 46 = .ok (.aload_n 0, 1) := by decide +kernel
theorem d_MD_dayOf_47 : decode b_MD_dayOf 47 = .ok (.sipush 10000, 3) := by decide +kernel
theorem d_MD_dayOf_50 : decode b_MD_dayOf 50 = .ok (.iload_n 1, 1) := by decide +kernel
theorem d_MD_dayOf_51 : decode b_MD_dayOf 51 = .ok (.imul, 1) := by decide +kernel
theorem d_MD_dayOf_52 : decode b_MD_dayOf 52 = .ok (.bipush 100, 2) := by decide +kernel
theorem d_MD_dayOf_54 : decode b_MD_dayOf 54 = .ok (.iload_n 2, 1) := by decide +kernel
theorem d_MD_dayOf_55 : decode b_MD_dayOf 55 = .ok (.imul, 1) := by decide +kernel
theorem d_MD_dayOf_56 : decode b_MD_dayOf 56 = .ok (.iadd, 1) := by decide +kernel
theorem d_MD_dayOf_57 : decode b_MD_dayOf 57 = .ok (.iload_n 3, 1) := by decide +kernel
theorem d_MD_dayOf_58 : decode b_MD_dayOf 58 = .ok (.iadd, 1) := by decide +kernel
theorem d_MD_dayOf_59 : decode b_MD_dayOf 59 = .ok (.invokevirtual 192, 3) := by decide +kernel
theorem d_MD_dayOf_62 : decode b_MD_dayOf 62 = .ok (.ireturn, 1) := by decide +kernel
theorem d_MD_dateOf_0 : decode b_MD_dateOf 0 = .ok (.aload_n 0, 1) := by decide +kernel
theorem d_MD_dateOf_1 : decode b_MD_dateOf 1 = .ok (.iconst 0, 1) := by decide +kernel
theorem d_MD_dateOf_2 : decode b_MD_dateOf 2 = .ok (.putfield 75, 3) := by decide +kernel
theorem d_MD_dateOf_5 : decode b_MD_dateOf 5 = .ok (.iload_n 1, 1) := by decide +kernel
theorem d_MD_dateOf_6 : decode b_MD_dateOf 6 = .ok (.ifCond .lt 19, 3) := by decide +kernel
theorem d_MD_dateOf_9 : decode b_MD_dateOf 9 = .ok (.iload_n 1, 1) := by decide +kernel
theorem d_MD_dateOf_10 : decode b_MD_dateOf 10 = .ok (.sipush 1461, 3) := by decide +kernel
theorem d_MD_dateOf_13 : decode b_MD_dateOf 13 = .ok (.if_icmp .ge 12, 3) := by decide +kernel
theorem d_MD_dateOf_16 : decode b_MD_dateOf 16 = .ok (.iload_n 2, 1) := by decide +kernel
theorem d_MD_dateOf_17 : decode b_MD_dateOf 17 = .ok (.ifCond .lt 8, 3) := by decide +kernel
theorem d_MD_dateOf_20 : decode b_MD_dateOf 20 = .ok (.iload_n 2, 1) := by decide +kernel
theorem d_MD_dateOf_21 : decode b_MD_dateOf 21 = .ok (.iconst 2, 1) := by decide +kernel
theorem d_MD_dateOf_22 : decode b_MD_dateOf 22 = .ok (.if_icmp .le 5, 3) := by decide +kernel
theorem d_MD_dateOf_25 : decode b_MD_dateOf 25 = .ok (.iconst (-1), 1) := by decide +kernel
theorem d_MD_dateOf_26 : decode b_MD_dateOf 26 = .ok (.ireturn, 1) := by decide +kernel
theorem d_MD_dateOf_27 : decode b_MD_dateOf 27 = .ok (.iload_n 2, 1) := by decide +kernel
theorem d_MD_dateOf_28 : decode b_MD_dateOf 28 = .ok (.ifCond .ne 12, 3) := by decide +kernel
theorem d_MD_dateOf_31 : decode b_MD_dateOf 31 = .ok (.aload_n 0, 1) := by decide +kernel
theorem d_MD_dateOf_32 : decode b_MD_dateOf 32 = .ok (.getfield 13, 3) := by decide +kernel
theorem d_MD_dateOf_35 : decode b_MD_dateOf 35 = .ok (.iload_n 1, 1) := by decide +kernel
theorem d_MD_dateOf_36 : decode b_MD_dateOf 36 = .ok (.iaload, 1) := by decide +kernel
theorem d_MD_dateOf_37 : decode b_MD_dateOf 37 = .ok (.goto 20, 3) := by decide +kernel
theorem d_MD_dateOf_40 : decode b_MD_dateOf 40 = .ok (.iload_n 2, 1) := by decide +kernel
theorem d_MD_dateOf_41 : decode b_MD_dateOf 41 = .ok (.iconst 1, 1) := by decide +kernel
theorem d_MD_dateOf_42 : decode b_MD_dateOf 42 = .ok (.if_icmp .ne 10, 3) := by decide +kernel
theorem d_MD_dateOf_45 : decode b_MD_dateOf 45 = .ok (.iload_n 1, 1) := by decide +kernel
theorem d_MD_dateOf_46 : decode b_MD_dateOf 46 = .ok (.invokestatic 79, 3) := by decide +kernel
theorem d_MD_dateOf_49 : decode b_MD_dateOf 49 = .ok (.goto 8, 3) := by decide +kernel
theorem d_MD_dateOf_52 : decode b_MD_dateOf 52 = .ok (.aload_n 0, 1) := by decide +kernel
theorem d_MD_dateOf_53 : decode b_MD_dateOf 53 = .ok (.iload_n 1, 1) := by decide +kernel
theorem d_MD_dateOf_54 : decode b_MD_dateOf 54 = .ok (.invokevirtual 153, 3) := by decide +kernel
theorem d_MD_dateOf_57 : decode b_MD_dateOf 57 = .ok (.ireturn, 1) := by decide +kernel
theorem d_MD_feast_0 : decode b_MD_feast 0 = .ok (.aload_n 0, 1) := by decide +kernel
theorem d_MD_feast_1 : decode b_MD_feast 1 = .ok (.iconst 0, 1) := by decide +kernel
theorem d_MD_feast_2 : decode b_MD_feast 2 = .ok (.putfield 75, 3) := by decide +kernel
theorem d_MD_feast_5 : decode b_MD_feast 5 = .ok (.iload_n 1, 1) := by decide +kernel
theorem d_MD_feast_6 : decode b_MD_feast 6 = .ok (.sipush 1900, 3) := by decide +kernel
theorem d_MD_feast_9 : decode b_MD_feast 9 = .ok (.if_icmp .lt 10, 3) := by decide +kernel
theorem d_MD_feast_12 : decode b_MD_feast 12 = .ok (.iload_n 1, 1) := by decide +kernel
theorem d_MD_feast_13 : decode b_MD_feast 13 = .ok (.sipush 2299, 3) := by decide +kernel
theorem d_MD_feast_16 : decode b_MD_feast 16 = .ok (.if_icmp .le 7, 3) := by decide +kernel
theorem d_MD_feast_19 : decode b_MD_feast 19 = .ok (.iconst (-1), 1) := by decide +kernel
theorem d_MD_feast_20 : decode b_MD_feast 20 = .ok (.goto 7, 3) := by decide +kernel
theorem d_MD_feast_23 : decode b_MD_feast 23 = .ok (.iload_n 1, 1) := by decide +kernel
theorem d_MD_feast_24 : decode b_MD_feast 24 = .ok (.invokestatic 71, 3) := by decide +kernel
theorem d_MD_feast_27 : decode b_MD_feast 27 = .ok (.ireturn, 1) := by decide +kernel
theorem d_MD_elapsed_0 : decode b_MD_elapsed 0 = .ok (.aload_n 0, 1) := by decide +kernel
theorem d_MD_elapsed_1 : decode b_MD_elapsed 1 = .ok (.iload_n 1, 1) := by decide +kernel
theorem d_MD_elapsed_2 : decode b_MD_elapsed 2 = .ok (.ifCond .lt 20, 3) := by decide +kernel
theorem d_MD_elapsed_5 : decode b_MD_elapsed 5 = .ok (.iload_n 1, 1) := by decide +kernel
theorem d_MD_elapsed_6 : decode b_MD_elapsed 6 = .ok (.sipush 1461, 3) := by decide +kernel
theorem d_MD_elapsed_9 : decode b_MD_elapsed 9 = .ok (.if_icmp .ge 13, 3) := by decide +kernel
theorem d_MD_elapsed_12 : decode b_MD_elapsed 12 = .ok (.iload_n 2, 1) := by decide +kernel
theorem d_MD_elapsed_13 : decode b_MD_elapsed 13 = .ok (.ifCond .lt 9, 3) := by decide +kernel
theorem d_MD_elapsed_16 : decode b_MD_elapsed 16 = .ok (.iload_n 2, 1) := by decide +kernel
theorem d_MD_elapsed_17 : decode b_MD_elapsed 17 = .ok (.bipush 47, 2) := by decide +kernel
theorem d_MD_elapsed_19 : decode b_MD_elapsed 19 = .ok (.if_icmp .le 7, 3) := by decide +kernel
theorem d_MD_elapsed_22 : decode b_MD_elapsed 22 = .ok (.iconst 1, 1) := by decide +kernel
theorem d_MD_elapsed_23 : decode b_MD_elapsed 23 = .ok (.goto 4, 3) := by decide +kernel
theorem d_MD_elapsed_26 : decode b_MD_elapsed 26 = .ok (.iconst 0, 1) := by decide +kernel
theorem d_MD_elapsed_27 : decode b_MD_elapsed 27 = .ok (.invokevirtual 159, 3) := by decide +kernel
theorem d_MD_elapsed_30 : decode b_MD_elapsed 30 = .ok (.ifCond .eq 5, 3) := by decide +kernel
theorem d_MD_elapsed_33 : decode b_MD_elapsed 33 = .ok (.iconst 0, 1) := by decide +kernel
theorem d_MD_elapsed_34 : decode b_MD_elapsed 34 = .ok (.ireturn, 1) := by decide +kernel
theorem d_MD_elapsed_35 : decode b_MD_elapsed 35 = .ok (.aload_n 0, 1) := by decide +kernel
theorem d_MD_elapsed_36 : decode b_MD_elapsed 36 = .ok (.iload_n 1, 1) := by decide +kernel
theorem d_MD_elapsed_37 : decode b_MD_elapsed 37 = .ok (.iload_n 2, 1) := by decide +kernel
theorem d_MD_elapsed_38 : decode b_MD_elapsed 38 = .ok (.invokevirtual 183, 3) := by decide +kernel
theorem d_MD_elapsed_41 : decode b_MD_elapsed 41 = .ok (.ifCond .eq 7, 3) := by decide +kernel
theorem d_MD_elapsed_44 : decode b_MD_elapsed 44 = .ok (.iconst (-1), 1) := by decide +kernel
theorem d_MD_elapsed_45 : decode b_MD_elapsed 45 = .ok (.goto 10, 3) := by decide +kernel
theorem d_MD_elapsed_48 : decode b_MD_elapsed 48 = .ok (.aload_n 0, 1) := by decide +kernel
theorem d_MD_elapsed_49 : decode b_MD_elapsed 49 = .ok (.iload_n 1, 1) := by decide +kernel
theorem d_MD_elapsed_50 : decode b_MD_elapsed 50 = .ok (.iload_n 2, 1) := by decide +kernel
theorem d_MD_elapsed_51 : decode b_MD_elapsed 51 = .ok (.iload_n 3, 1) := by decide +kernel
theorem d_MD_elapsed_52 : decode b_MD_elapsed 52 = .ok (.invokevirtual 195, 3) := by decide +kernel
theorem d_MD_elapsed_55 : decode b_MD_elapsed 55 = .ok (.ireturn, 1) := by decide +kernel
