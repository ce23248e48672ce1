theorem d_RR_readSpan_0 : decode b_RR_readSpan 0 = .ok (.aload_n 0, 1) := by decide +kernel
theorem d_RR_readSpan_1 : decode b_RR_readSpan 1 = .ok (.aload_n 0, 1) := by decide +kernel
theorem d_RR_readSpan_2 : decode b_RR_readSpan 2 = .ok (.bipush 23, 2) := by decide +kernel
theorem d_RR_readSpan_4 : decode b_RR_readSpan 4 = .ok (.iconst (-1), 1) := by decide +kernel
theorem d_RR_readSpan_5 : decode b_RR_readSpan 5 = .ok (.invokevirtual 86, 3) := by decide +kernel
theorem d_RR_readSpan_8 : decode b_RR_readSpan 8 = .ok (.putfield 66, 3) := by decide +kernel
theorem d_RR_readSpan_11 : decode b_RR_readSpan 11 = .ok (.aload_n 0, 1) := by decide +kernel
theorem d_RR_readSpan_12 : decode b_RR_readSpan 12 = .ok (.getfield 66, 3) := by decide +kernel
theorem d_RR_readSpan_15 : decode b_RR_readSpan 15 = .ok (.iconst (-1), 1) := by decide +kernel
theorem d_RR_readSpan_16 : decode b_RR_readSpan 16 = .ok (.if_icmp .eq 12, 3) := by decide +kernel
theorem d_RR_readSpan_19 : decode b_RR_readSpan 19 = .ok (.aload_n 0, 1) := by decide +kernel
theorem d_RR_readSpan_20 : decode b_RR_readSpan 20 = .ok (.bipush 45, 2) := by decide +kernel
theorem d_RR_readSpan_22 : decode b_RR_readSpan 22 = .ok (.invokevirtual 58, 3) := by decide +kernel
theorem d_RR_readSpan_25 : decode b_RR_readSpan 25 = .ok (.ifCond .ne 5, 3) := by decide +kernel
theorem d_RR_readSpan_28 : decode b_RR_readSpan 28 = .ok (.iconst 0, 1) := by decide +kernel
theorem d_RR_readSpan_29 : decode b_RR_readSpan 29 = .ok (.ireturn, 1) := by decide +kernel
theorem d_RR_readSpan_30 : decode b_RR_readSpan 30 = .ok (.aload_n 0, 1) := by decide +kernel
theorem d_RR_readSpan_31 : decode b_RR_readSpan 31 = .ok (.aload_n 0, 1) := by decide +kernel
theorem d_RR_readSpan_32 : decode b_RR_readSpan 32 = .ok (.bipush 24, 2) := by decide +kernel
theorem d_RR_readSpan_34 : decode b_RR_readSpan 34 = .ok (.aload_n 0, 1) := by decide +kernel
theorem d_RR_readSpan_35 : decode b_RR_readSpan 35 = .ok (.getfield 66, 3) := by decide +kernel
theorem d_RR_readSpan_38 : decode b_RR_readSpan 38 = .ok (.invokevirtual 86, 3) := by decide +kernel
theorem d_RR_readSpan_41 : decode b_RR_readSpan 41 = .ok (.putfield 69, 3) := by decide +kernel
theorem d_RR_readSpan_44 : decode b_RR_readSpan 44 = .ok (.aload_n 0, 1) := by decide +kernel
theorem d_RR_readSpan_45 : decode b_RR_readSpan 45 = .ok (.getfield 69, 3) := by decide +kernel
theorem d_RR_readSpan_48 : decode b_RR_readSpan 48 = .ok (.iconst (-1), 1) := by decide +kernel
theorem d_RR_readSpan_49 : decode b_RR_readSpan 49 = .ok (.if_icmp .eq 7, 3) := by decide +kernel
theorem d_RR_readSpan_52 : decode b_RR_readSpan 52 = .ok (.iconst 1, 1) := by decide +kernel
theorem d_RR_readSpan_53 : decode b_RR_readSpan 53 = .ok (.goto 4, 3) := by decide +kernel
theorem d_RR_readSpan_56 : decode b_RR_readSpan 56 = .ok (.iconst 0, 1) := by decide +kernel
theorem d_RR_readSpan_57 : decode b_RR_readSpan 57 = .ok (.ireturn, 1) := by decide +kernel
theorem d_RR_takeHalfHour_0 : decode b_RR_takeHalfHour 0 = .ok (.aload_n 0, 1) := by decide +kernel
theorem d_RR_takeHalfHour_1 : decode b_RR_takeHalfHour 1 = .ok (.bipush 10, 2) := by decide +kernel
theorem d_RR_takeHalfHour_3 : decode b_RR_takeHalfHour 3 = .ok (.iconst 0, 1) := by decide +kernel
theorem d_RR_takeHalfHour_4 : decode b_RR_takeHalfHour 4 = .ok (.iload_n 1, 1) := by decide +kernel
theorem d_RR_takeHalfHour_5 : decode b_RR_takeHalfHour 5 = .ok (.invokevirtual 62, 3) := by decide +kernel
theorem d_RR_takeHalfHour_8 : decode b_RR_takeHalfHour 8 = .ok (.istore_n 3, 1) := by decide +kernel
theorem d_RR_takeHalfHour_9 : decode b_RR_takeHalfHour 9 = .ok (.iload_n 3, 1) := by decide +kernel
theorem d_RR_takeHalfHour_10 : decode b_RR_takeHalfHour 10 = .ok (.iconst (-1), 1) := by decide +kernel
theorem d_RR_takeHalfHour_11 : decode b_RR_takeHalfHour 11 = .ok (.if_icmp .ne 5, 3) := by decide +kernel
theorem d_RR_takeHalfHour_14 : decode b_RR_takeHalfHour 14 = .ok (.iconst (-1), 1) := by decide +kernel
theorem d_RR_takeHalfHour_15 : decode b_RR_takeHalfHour 15 = .ok (.ireturn, 1) := by decide +kernel
theorem d_RR_takeHalfHour_16 : decode b_RR_takeHalfHour 16 = .ok (.iconst 2, 1) := by decide +kernel
theorem d_RR_takeHalfHour_17 : decode b_RR_takeHalfHour 17 = .ok (.iload_n 3, 1) := by decide +kernel
theorem d_RR_takeHalfHour_18 : decode b_RR_takeHalfHour 18 = .ok (.imul, 1) := by decide +kernel
theorem d_RR_takeHalfHour_19 : decode b_RR_takeHalfHour 19 = .ok (.istore 4, 2) := by decide +kernel
theorem d_RR_takeHalfHour_21 : decode b_RR_takeHalfHour 21 = .ok (.iload 4, 2) := by decide +kernel
theorem d_RR_takeHalfHour_23 : decode b_RR_takeHalfHour 23 = .ok (.iload_n 2, 1) := by decide +kernel
theorem d_RR_takeHalfHour_24 : decode b_RR_takeHalfHour 24 = .ok (.if_icmp .eq 16, 3) := by decide +kernel
theorem d_RR_takeHalfHour_27 : decode b_RR_takeHalfHour 27 = .ok (.aload_n 0, 1) := by decide +kernel
theorem d_RR_takeHalfHour_28 : decode b_RR_takeHalfHour 28 = .ok (.bipush 48, 2) := by decide +kernel
theorem d_RR_takeHalfHour_30 : decode b_RR_takeHalfHour 30 = .ok (.invokevirtual 58, 3) := by decide +kernel
theorem d_RR_takeHalfHour_33 : decode b_RR_takeHalfHour 33 = .ok (.ifCond .eq 7, 3) := by decide +kernel
theorem d_RR_takeHalfHour_36 : decode b_RR_takeHalfHour 36 = .ok (.iconst 1, 1) := by decide +kernel
theorem d_RR_takeHalfHour_37 : decode b_RR_takeHalfHour 37 = .ok (.goto 4, 3) := by decide +kernel
theorem d_RR_takeHalfHour_40 : decode b_RR_takeHalfHour 40 = .ok (.iconst 0, 1) := by decide +kernel
theorem d_RR_takeHalfHour_41 : decode b_RR_takeHalfHour 41 = .ok (.istore 5, 2) := by decide +kernel
theorem d_RR_takeHalfHour_43 : decode b_RR_takeHalfHour 43 = .ok (.iload 5, 2) := by decide +kernel
theorem d_RR_takeHalfHour_45 : decode b_RR_takeHalfHour 45 = .ok (.ifCond .ne 32, 3) := by decide +kernel
theorem d_RR_takeHalfHour_48 : decode b_RR_takeHalfHour 48 = .ok (.iload_n 3, 1) := by decide +kernel
theorem d_RR_takeHalfHour_49 : decode b_RR_takeHalfHour 49 = .ok (.bipush 24, 2) := by decide +kernel
theorem d_RR_takeHalfHour_51 : decode b_RR_takeHalfHour 51 = .ok (.if_icmp .ge 26, 3) := by decide +kernel
theorem d_RR_takeHalfHour_54 : decode b_RR_takeHalfHour 54 = .ok (.iload 4, 2) := by decide +kernel
theorem d_RR_takeHalfHour_56 : decode b_RR_takeHalfHour 56 = .ok (.iconst 1, 1) := by decide +kernel
theorem d_RR_takeHalfHour_57 : decode b_RR_takeHalfHour 57 = .ok (.iadd, 1) := by decide +kernel
theorem d_RR_takeHalfHour_58 : decode b_RR_takeHalfHour 58 = .ok (.iload_n 2, 1) := by decide +kernel
theorem d_RR_takeHalfHour_59 : decode b_RR_takeHalfHour 59 = .ok (.if_icmp .eq 18, 3) := by decide +kernel
theorem d_RR_takeHalfHour_62 : decode b_RR_takeHalfHour 62 = .ok (.aload_n 0, 1) := by decide +kernel
theorem d_RR_takeHalfHour_63 : decode b_RR_takeHalfHour 63 = .ok (.bipush 51, 2) := by decide +kernel
theorem d_RR_takeHalfHour_65 : decode b_RR_takeHalfHour 65 = .ok (.invokevirtual 58, 3) := by decide +kernel
theorem d_RR_takeHalfHour_68 : decode b_RR_takeHalfHour 68 = .ok (.ifCond .eq 9, 3) := by decide +kernel
theorem d_RR_takeHalfHour_71 : decode b_RR_takeHalfHour 71 = .ok (.iinc 4 1, 3) := by decide +kernel
theorem d_RR_takeHalfHour_74 : decode b_RR_takeHalfHour 74 = .ok (.iconst 1, 1) := by decide +kernel
theorem d_RR_takeHalfHour_75 : decode b_RR_takeHalfHour 75 = .ok (.istore 5, 2) := by decide +kernel
theorem d_RR_takeHalfHour_77 : decode b_RR_takeHalfHour 77 = .ok (.iload 5, 2) := by decide +kernel
theorem d_RR_takeHalfHour_79 : decode b_RR_takeHalfHour 79 = .ok (.ifCond .eq 17, 3) := by decide +kernel
theorem d_RR_takeHalfHour_82 : decode b_RR_takeHalfHour 82 = .ok (.aload_n 0, 1) := by decide +kernel
theorem d_RR_takeHalfHour_83 : decode b_RR_takeHalfHour 83 = .ok (.bipush 48, 2) := by decide +kernel
theorem d_RR_takeHalfHour_85 : decode b_RR_takeHalfHour 85 = .ok (.invokevirtual 58, 3) := by decide +kernel
theorem d_RR_takeHalfHour_88 : decode b_RR_takeHalfHour 88 = .ok (.ifCond .eq 8, 3) := by decide +kernel
theorem d_RR_takeHalfHour_91 : decode b_RR_takeHalfHour 91 = .ok (.iload 4, 2) := by decide +kernel
theorem d_RR_takeHalfHour_93 : decode b_RR_takeHalfHour 93 = .ok (.goto 4, 3) := by decide +kernel
theorem d_RR_takeHalfHour_96 : decode b_RR_takeHalfHour 96 = .ok (.iconst (-1), 1) := by decide +kernel
theorem d_RR_takeHalfHour_97 : decode b_RR_takeHalfHour 97 = .ok (.ireturn, 1) := by decide +kernel
theorem d_RR_readRankedWeekday_0 : decode b_RR_readRankedWeekday 0 = .ok (.aload_n 0, 1) := by decide +kernel
theorem d_RR_readRankedWeekday_1 : decode b_RR_readRankedWeekday 1 = .ok (.bipush 76, 2) := by decide +kernel
theorem d_RR_readRankedWeekday_3 : decode b_RR_readRankedWeekday 3 = .ok (.invokevirtual 58, 3) := by decide +kernel
theorem d_RR_readRankedWeekday_6 : decode b_RR_readRankedWeekday 6 = .ok (.ifCond .eq 7, 3) := by decide +kernel
theorem d_RR_readRankedWeekday_9 : decode b_RR_readRankedWeekday 9 = .ok (.iconst 0, 1) := by decide +kernel
theorem d_RR_readRankedWeekday_10 : decode b_RR_readRankedWeekday 10 = .ok (.goto 10, 3) := by decide +kernel
theorem d_RR_readRankedWeekday_13 : decode b_RR_readRankedWeekday 13 = .ok (.aload_n 0, 1) := by decide +kernel
theorem d_RR_readRankedWeekday_14 : decode b_RR_readRankedWeekday 14 = .ok (.iconst 1, 1) := by decide +kernel
theorem d_RR_readRankedWeekday_15 : decode b_RR_readRankedWeekday 15 = .ok (.iconst 1, 1) := by decide +kernel
theorem d_RR_readRankedWeekday_16 : decode b_RR_readRankedWeekday 16 = .ok (.iconst 5, 1) := by decide +kernel
theorem d_RR_readRankedWeekday_17 : decode b_RR_readRankedWeekday 17 = .ok (.invokevirtual 62, 3) := by decide +kernel
theorem d_RR_readRankedWeekday_20 : decode b_RR_readRankedWeekday 20 = .ok (.istore_n 1, 1) := by decide +kernel
theorem d_RR_readRankedWeekday_21 : decode b_RR_readRankedWeekday 21 = .ok (.iload_n 1, 1) := by decide +kernel
theorem d_RR_readRankedWeekday_22 : decode b_RR_readRankedWeekday 22 = .ok (.iconst (-1), 1) := by decide +kernel
theorem d_RR_readRankedWeekday_23 : decode b_RR_readRankedWeekday 23 = .ok (.if_icmp .ne 5, 3) := by decide +kernel
theorem d_RR_readRankedWeekday_26 : decode b_RR_readRankedWeekday 26 = .ok (.iconst 0, 1) := by decide +kernel
theorem d_RR_readRankedWeekday_27 : decode b_RR_readRankedWeekday 27 = .ok (.ireturn, 1) := by decide +kernel
theorem d_RR_readRankedWeekday_28 : decode b_RR_readRankedWeekday 28 = .ok (.aload_n 0, 1) := by decide +kernel
theorem d_RR_readRankedWeekday_29 : decode b_RR_readRankedWeekday 29 = .ok (.iconst 1, 1) := by decide +kernel
theorem d_RR_readRankedWeekday_30 : decode b_RR_readRankedWeekday 30 = .ok (.iconst 1, 1) := by decide +kernel
theorem d_RR_readRankedWeekday_31 : decode b_RR_readRankedWeekday 31 = .ok (.bipush 7, 2) := by decide +kernel
theorem d_RR_readRankedWeekday_33 : decode b_RR_readRankedWeekday 33 = .ok (.invokevirtual 62, 3) := by decide +kernel
theorem d_RR_readRankedWeekday_36 : decode b_RR_readRankedWeekday 36 = .ok (.istore_n 2, 1) := by decide +kernel
theorem d_RR_readRankedWeekday_37 : decode b_RR_readRankedWeekday 37 = .ok (.aload_n 0, 1) := by decide +kernel
theorem d_RR_readRankedWeekday_38 : decode b_RR_readRankedWeekday 38 = .ok (.getfield 34, 3) := by decide +kernel
theorem d_RR_readRankedWeekday_41 : decode b_RR_readRankedWeekday 41 = .ok (.bipush 78, 2) := by decide +kernel
theorem d_RR_readRankedWeekday_43 : decode b_RR_readRankedWeekday 43 = .ok (.iload_n 1, 1) := by decide +kernel
theorem d_RR_readRankedWeekday_44 : decode b_RR_readRankedWeekday 44 = .ok (.iload_n 2, 1) := by decide +kernel
theorem d_RR_readRankedWeekday_45 : decode b_RR_readRankedWeekday 45 = .ok (.invokevirtual 128, 3) := by decide +kernel
theorem d_RR_readRankedWeekday_48 : decode b_RR_readRankedWeekday 48 = .ok (.iload_n 2, 1) := by decide +kernel
theorem d_RR_readRankedWeekday_49 : decode b_RR_readRankedWeekday 49 = .ok (.iconst (-1), 1) := by decide +kernel
theorem d_RR_readRankedWeekday_50 : decode b_RR_readRankedWeekday 50 = .ok (.if_icmp .eq 7, 3) := by decide +kernel
theorem d_RR_readRankedWeekday_53 : decode b_RR_readRankedWeekday 53 = .ok (.iconst 1, 1) := by decide +kernel
theorem d_RR_readRankedWeekday_54 : decode b_RR_readRankedWeekday 54 = .ok (.goto 4, 3) := by decide +kernel
theorem d_RR_readRankedWeekday_57 : decode b_RR_readRankedWeekday 57 = .ok (.iconst 0, 1) := by decide +kernel
theorem d_RR_readRankedWeekday_58 : decode b_RR_readRankedWeekday 58 = .ok (.ireturn, 1) := by decide +kernel
theorem d_RR_readDates_0 : decode b_RR_readDates 0 = .ok (.aload_n 0, 1) := by decide +kernel
theorem d_RR_readDates_1 : decode b_RR_readDates 1 = .ok (.invokevirtual 141, 3) := by decide +kernel
theorem d_RR_readDates_4 : decode b_RR_readDates 4 = .ok (.istore_n 1, 1) := by decide +kernel
theorem d_RR_readDates_5 : decode b_RR_readDates 5 = .ok (.iload_n 1, 1) := by decide +kernel
theorem d_RR_readDates_6 : decode b_RR_readDates 6 = .ok (.iconst (-1), 1) := by decide +kernel
theorem d_RR_readDates_7 : decode b_RR_readDates 7 = .ok (.if_icmp .eq 12, 3) := by decide +kernel
theorem d_RR_readDates_10 : decode b_RR_readDates 10 = .ok (.aload_n 0, 1) := by decide +kernel
theorem d_RR_readDates_11 : decode b_RR_readDates 11 = .ok (.bipush 45, 2) := by decide +kernel
theorem d_RR_readDates_13 : decode b_RR_readDates 13 = .ok (.invokevirtual 58, 3) := by decide +kernel
theorem d_RR_readDates_16 : decode b_RR_readDates 16 = .ok (.ifCond .ne 5, 3) := by decide +kernel
theorem d_RR_readDates_19 : decode b_RR_readDates 19 = .ok (.iconst 0, 1) := by decide +kernel
theorem d_RR_readDates_20 : decode b_RR_readDates 20 = .ok (.ireturn, 1) := by decide +kernel
theorem d_RR_readDates_21 : decode b_RR_readDates 21 = .ok (.aload_n 0, 1) := by decide +kernel
theorem d_RR_readDates_22 : decode b_RR_readDates 22 = .ok (.invokevirtual 141, 3) := by decide +kernel
theorem d_RR_readDates_25 : decode b_RR_readDates 25 = .ok (.istore_n 2, 1) := by decide +kernel
theorem d_RR_readDates_26 : decode b_RR_readDates 26 = .ok (.aload_n 0, 1) := by decide +kernel
theorem d_RR_readDates_27 : decode b_RR_readDates 27 = .ok (.getfield 34, 3) := by decide +kernel
theorem d_RR_readDates_30 : decode b_RR_readDates 30 = .ok (.bipush 68, 2) := by decide +kernel
theorem d_RR_readDates_32 : decode b_RR_readDates 32 = .ok (.iload_n 1, 1) := by decide +kernel
theorem d_RR_readDates_33 : decode b_RR_readDates 33 = .ok (.iload_n 2, 1) := by decide +kernel
theorem d_RR_readDates_34 : decode b_RR_readDates 34 = .ok (.invokevirtual 128, 3) := by decide +kernel
theorem d_RR_readDates_37 : decode b_RR_readDates 37 = .ok (.iload_n 2, 1) := by decide +kernel
theorem d_RR_readDates_38 : decode b_RR_readDates 38 = .ok (.iconst (-1), 1) := by decide +kernel
theorem d_RR_readDates_39 : decode b_RR_readDates 39 = .ok (.if_icmp .eq 7, 3) := by decide +kernel
theorem d_RR_readDates_42 : decode b_RR_readDates 42 = .ok (.iconst 1, 1) := by decide +kernel
theorem d_RR_readDates_43 : decode b_RR_readDates 43 = .ok (.goto 4, 3) := by decide +kernel
theorem d_RR_readDates_46 : decode b_RR_readDates 46 = .ok (.iconst 0, 1) := by decide +kernel
theorem d_RR_readDates_47 : decode b_RR_readDates 47 = .ok (.ireturn, 1) := by decide +kernel
theorem d_RR_takeMonthAndDay_0 : decode b_RR_takeMonthAndDay 0 = .ok (.aload_n 0, 1) := by decide +kernel
theorem d_RR_takeMonthAndDay_1 : decode b_RR_takeMonthAndDay 1 = .ok (.bipush 10, 2) := by decide +kernel
theorem d_RR_takeMonthAndDay_3 : decode b_RR_takeMonthAndDay 3 = .ok (.iconst 1, 1) := by decide +kernel
theorem d_RR_takeMonthAndDay_4 : decode b_RR_takeMonthAndDay 4 = .ok (.bipush 12, 2) := by decide +kernel
theorem d_RR_takeMonthAndDay_6 : decode b_RR_takeMonthAndDay 6 = .ok (.invokevirtual 62, 3) := by decide +kernel
theorem d_RR_takeMonthAndDay_9 : decode b_RR_takeMonthAndDay 9 = .ok (.istore_n 1, 1) := by decide +kernel
theorem d_RR_takeMonthAndDay_10 : decode b_RR_takeMonthAndDay 10 = .ok (.iload_n 1, 1) := by decide +kernel
theorem d_RR_takeMonthAndDay_11 : decode b_RR_takeMonthAndDay 11 = .ok (.iconst (-1), 1) := by decide +kernel
theorem d_RR_takeMonthAndDay_12 : decode b_RR_takeMonthAndDay 12 = .ok (.if_icmp .ne 5, 3) := by decide +kernel
theorem d_RR_takeMonthAndDay_15 : decode b_RR_takeMonthAndDay 15 = .ok (.iconst (-1), 1) := by decide +kernel
theorem d_RR_takeMonthAndDay_16 : decode b_RR_takeMonthAndDay 16 = .ok (.ireturn, 1) := by decide +kernel
theorem d_RR_takeMonthAndDay_17 : decode b_RR_takeMonthAndDay 17 = .ok (.aload_n 0, 1) := by decide +kernel
theorem d_RR_takeMonthAndDay_18 : decode b_RR_takeMonthAndDay 18 = .ok (.bipush 10, 2) := by decide +kernel
theorem d_RR_takeMonthAndDay_20 : decode b_RR_takeMonthAndDay 20 = .ok (.iconst 1, 1) := by decide +kernel
theorem d_RR_takeMonthAndDay_21 : decode b_RR_takeMonthAndDay 21 = .ok (.sipush 2000, 3) := by decide +kernel
theorem d_RR_takeMonthAndDay_24 : decode b_RR_takeMonthAndDay 24 = .ok (.iload_n 1, 1) := by decide +kernel
theorem d_RR_takeMonthAndDay_25 : decode b_RR_takeMonthAndDay 25 = .ok (.invokestatic 147, 3) := by decide +kernel
theorem d_RR_takeMonthAndDay_28 : decode b_RR_takeMonthAndDay 28 = .ok (.invokevirtual 62, 3) := by decide +kernel
theorem d_RR_takeMonthAndDay_31 : decode b_RR_takeMonthAndDay 31 = .ok (.istore_n 2, 1) := by decide +kernel
theorem d_RR_takeMonthAndDay_32 : decode b_RR_takeMonthAndDay 32 = .ok (.iload_n 2, 1) := by decide +kernel
theorem d_RR_takeMonthAndDay_33 : decode b_RR_takeMonthAndDay 33 = .ok (.iconst (-1), 1) := by decide +kernel
theorem d_RR_takeMonthAndDay_34 : decode b_RR_takeMonthAndDay 34 = .ok (.if_icmp .ne 7, 3) := by decide +kernel
theorem d_RR_takeMonthAndDay_37 : decode b_RR_takeMonthAndDay 37 = .ok (.iconst (-1), 1) := by decide +kernel
theorem d_RR_takeMonthAndDay_38 : decode b_RR_takeMonthAndDay 38 = .ok (.goto 9, 3) := by decide +kernel
theorem d_RR_takeMonthAndDay_41 : decode b_RR_takeMonthAndDay 41 = .ok (.bipush 100, 2) := by decide +kernel
theorem d_RR_takeMonthAndDay_43 : decode b_RR_takeMonthAndDay 43 = .ok (.iload_n 1, 1) := by decide +kernel
theorem d_RR_takeMonthAndDay_44 : decode b_RR_takeMonthAndDay 44 = .ok (.imul, 1) := by decide +kernel
theorem d_RR_takeMonthAndDay_45 : decode b_RR_takeMonthAndDay 45 = .ok (.iload_n 2, 1) := by decide +kernel
theorem d_RR_takeMonthAndDay_46 : decode b_RR_takeMonthAndDay 46 = .ok (.iadd, 1) := by decide +kernel
theorem d_RR_takeMonthAndDay_47 : decode b_RR_takeMonthAndDay 47 = .ok (.ireturn, 1) := by decide +kernel
theorem d_RR_readCycle_0 : decode b_RR_readCycle 0 = .ok (.aload_n 0, 1) := by decide +kernel
theorem d_RR_readCycle_1 : decode b_RR_readCycle 1 = .ok (.bipush 10, 2) := by decide +kernel
theorem d_RR_readCycle_3 : decode b_RR_readCycle 3 = .ok (.iconst 1, 1) := by decide +kernel
theorem d_RR_readCycle_4 : decode b_RR_readCycle 4 = .ok (.bipush 99, 2) := by decide +kernel
theorem d_RR_readCycle_6 : decode b_RR_readCycle 6 = .ok (.invokevirtual 62, 3) := by decide +kernel
theorem d_RR_readCycle_9 : decode b_RR_readCycle 9 = .ok (.istore_n 1, 1) := by decide +kernel
theorem d_RR_readCycle_10 : decode b_RR_readCycle 10 = .ok (.iload_n 1, 1) := by decide +kernel
theorem d_RR_readCycle_11 : decode b_RR_readCycle 11 = .ok (.iconst (-1), 1) := by decide +kernel
theorem d_RR_readCycle_12 : decode b_RR_readCycle 12 = .ok (.if_icmp .ne 5, 3) := by decide +kernel
theorem d_RR_readCycle_15 : decode b_RR_readCycle 15 = .ok (.iconst 0, 1) := by decide +kernel
theorem d_RR_readCycle_16 : decode b_RR_readCycle 16 = .ok (.ireturn, 1) := by decide +kernel
theorem d_RR_readCycle_17 : decode b_RR_readCycle 17 = .ok (.aload_n 0, 1) := by decide +kernel
theorem d_RR_readCycle_18 : decode b_RR_readCycle 18 = .ok (.bipush 10, 2) := by decide +kernel
theorem d_RR_readCycle_20 : decode b_RR_readCycle 20 = .ok (.iconst 0, 1) := by decide +kernel
theorem d_RR_readCycle_21 : decode b_RR_readCycle 21 = .ok (.iload_n 1, 1) := by decide +kernel
theorem d_RR_readCycle_22 : decode b_RR_readCycle 22 = .ok (.iconst 1, 1) := by decide +kernel
theorem d_RR_readCycle_23 : decode b_RR_readCycle 23 = .ok (.isub, 1) := by decide +kernel
theorem d_RR_readCycle_24 : decode b_RR_readCycle 24 = .ok (.invokevirtual 62, 3) := by decide +kernel
theorem d_RR_readCycle_27 : decode b_RR_readCycle 27 = .ok (.istore_n 2, 1) := by decide +kernel
theorem d_RR_readCycle_28 : decode b_RR_readCycle 28 = .ok (.aload_n 0, 1) := by decide +kernel
theorem d_RR_readCycle_29 : decode b_RR_readCycle 29 = .ok (.getfield 34, 3) := by decide +kernel
theorem d_RR_readCycle_32 : decode b_RR_readCycle 32 = .ok (.bipush 67, 2) := by decide +kernel
theorem d_RR_readCycle_34 : decode b_RR_readCycle 34 = .ok (.iload_n 1, 1) := by decide +kernel
theorem d_RR_readCycle_35 : decode b_RR_readCycle 35 = .ok (.iload_n 2, 1) := by decide +kernel
theorem d_RR_readCycle_36 : decode b_RR_readCycle 36 = .ok (.invokevirtual 128, 3) := by decide +kernel
theorem d_RR_readCycle_39 : decode b_RR_readCycle 39 = .ok (.iload_n 2, 1) := by decide +kernel
theorem d_RR_readCycle_40 : decode b_RR_readCycle 40 = .ok (.iconst (-1), 1) := by decide +kernel
theorem d_RR_readCycle_41 : decode b_RR_readCycle 41 = .ok (.if_icmp .eq 7, 3) := by decide +kernel
theorem d_RR_readCycle_44 : decode b_RR_readCycle 44 = .ok (.iconst 1, 1) := by decide +kernel
theorem d_RR_readCycle_45 : decode b_RR_readCycle 45 = .ok (.goto 4, 3) := by decide +kernel
theorem d_RR_readCycle_48 : decode b_RR_readCycle 48 = .ok (.iconst 0, 1) := by decide +kernel
theorem d_RR_readCycle_49 : decode b_RR_readCycle 49 = .ok (.ireturn, 1) := by decide +kernel
theorem d_RR_readFeast_0 : decode b_RR_readFeast 0 = .ok (.aload_n 0, 1) := by decide +kernel
theorem d_RR_readFeast_1 : decode b_RR_readFeast 1 = .ok (.bipush 43, 2) := by decide +kernel
theorem d_RR_readFeast_3 : decode b_RR_readFeast 3 = .ok (.invokevirtual 58, 3) := by decide +kernel
theorem d_RR_readFeast_6 : decode b_RR_readFeast 6 = .ok (.istore_n 1, 1) := by decide +kernel
theorem d_RR_readFeast_7 : decode b_RR_readFeast 7 = .ok (.iload_n 1, 1) := by decide +kernel
theorem d_RR_readFeast_8 : decode b_RR_readFeast 8 = .ok (.ifCond .ne 14, 3) := by decide +kernel
theorem d_RR_readFeast_11 : decode b_RR_readFeast 11 = .ok (.aload_n 0, 1) := by decide +kernel
theorem d_RR_readFeast_12 : decode b_RR_readFeast 12 = .ok (.bipush 45, 2) := by decide +kernel
theorem d_RR_readFeast_14 : decode b_RR_readFeast 14 = .ok (.invokevirtual 58, 3) := by decide +kernel
theorem d_RR_readFeast_17 : decode b_RR_readFeast 17 = .ok (.ifCond .ne 5, 3) := by decide +kernel
theorem d_RR_readFeast_20 : decode b_RR_readFeast 20 = .ok (.iconst 0, 1) := by decide +kernel
theorem d_RR_readFeast_21 : decode b_RR_readFeast 21 = .ok (.ireturn, 1) := by decide +kernel
theorem d_RR_readFeast_22 : decode b_RR_readFeast 22 = .ok (.aload_n 0, 1) := by decide +kernel
theorem d_RR_readFeast_23 : decode b_RR_readFeast 23 = .ok (.bipush 10, 2) := by decide +kernel
theorem d_RR_readFeast_25 : decode b_RR_readFeast 25 = .ok (.iconst 0, 1) := by decide +kernel
theorem d_RR_readFeast_26 : decode b_RR_readFeast 26 = .ok (.bipush 99, 2) := by decide +kernel
theorem d_RR_readFeast_28 : decode b_RR_readFeast 28 = .ok (.invokevirtual 62, 3) := by decide +kernel
theorem d_RR_readFeast_31 : decode b_RR_readFeast 31 = .ok (.istore_n 2, 1) := by decide +kernel
theorem d_RR_readFeast_32 : decode b_RR_readFeast 32 = .ok (.aload_n 0, 1) := by decide +kernel
theorem d_RR_readFeast_33 : decode b_RR_readFeast 33 = .ok (.getfield 34, 3) := by decide +kernel
theorem d_RR_readFeast_36 : decode b_RR_readFeast 36 = .ok (.bipush 70, 2) := by decide +kernel
theorem d_RR_readFeast_38 : decode b_RR_readFeast 38 = .ok (.iload_n 1, 1) := by decide +kernel
theorem d_RR_readFeast_39 : decode b_RR_readFeast 39 = .ok (.ifCond .eq 7, 3) := by decide +kernel
theorem d_RR_readFeast_42 : decode b_RR_readFeast 42 = .ok (.iload_n 2, 1) := by decide +kernel
theorem d_RR_readFeast_43 : decode b_RR_readFeast 43 = .ok (.goto 5, 3) := by decide +kernel
theorem d_RR_readFeast_46 : decode b_RR_readFeast 46 = .ok (.iload_n 2, 1) := by decide +kernel
theorem d_RR_readFeast_47 : decode b_RR_readFeast 47 = .ok (.ineg, 1) := by decide +kernel
theorem d_RR_readFeast_48 : decode b_RR_readFeast 48 = .ok (.iconst 0, 1) := by decide +kernel
theorem d_RR_readFeast_49 : decode b_RR_readFeast 49 = .ok (.invokevirtual 128, 3) := by decide +kernel
theorem d_RR_readFeast_52 : decode b_RR_readFeast 52 = .ok (.iload_n 2, 1) := by decide +kernel
theorem d_RR_readFeast_53 : decode b_RR_readFeast 53 = .ok (.iconst (-1), 1) := by decide +kernel
theorem d_RR_readFeast_54 : decode b_RR_readFeast 54 = .ok (.if_icmp .eq 7, 3) := by decide +kernel
theorem d_RR_readFeast_57 : decode b_RR_readFeast 57 = .ok (.iconst 1, 1) := by decide +kernel
theorem d_RR_readFeast_58 : decode b_RR_readFeast 58 = .ok (.goto 4, 3) := by decide +kernel
theorem d_RR_readFeast_61 : decode b_RR_readFeast 61 = .ok (.iconst 0, 1) := by decide +kernel
theorem d_RR_readFeast_62 : decode b_RR_readFeast 62 = .ok (.ireturn, 1) := by decide +kernel
theorem d_RR_readYears_0 : decode b_RR_readYears 0 = .ok (.sipush 2003, 3) := by decide +kernel
theorem d_RR_readYears_3 : decode b_RR_readYears 3 = .ok (.istore_n 1, 1) := by decide +kernel
theorem d_RR_readYears_4 : decode b_RR_readYears 4 = .ok (.aload_n 0, 1) := by decide +kernel
theorem d_RR_readYears_5 : decode b_RR_readYears 5 = .ok (.sipush 1000, 3) := by decide +kernel
theorem d_RR_readYears_8 : decode b_RR_readYears 8 = .ok (.sipush 2000, 3) := by decide +kernel
theorem d_RR_readYears_11 : decode b_RR_readYears 11 = .ok (.iload_n 1, 1) := by decide +kernel
theorem d_RR_readYears_12 : decode b_RR_readYears 12 = .ok (.invokevirtual 62, 3) := by decide +kernel
theorem d_RR_readYears_15 : decode b_RR_readYears 15 = .ok (.istore_n 2, 1) := by decide +kernel
theorem d_RR_readYears_16 : decode b_RR_readYears 16 = .ok (.iload_n 2, 1) := by decide +kernel
theorem d_RR_readYears_17 : decode b_RR_readYears 17 = .ok (.iconst (-1), 1) := by decide +kernel
theorem d_RR_readYears_18 : decode b_RR_readYears 18 = .ok (.if_icmp .eq 12, 3) := by decide +kernel
theorem d_RR_readYears_21 : decode b_RR_readYears 21 = .ok (.aload_n 0, 1) := by decide +kernel
theorem d_RR_readYears_22 : decode b_RR_readYears 22 = .ok (.bipush 45, 2) := by decide +kernel
theorem d_RR_readYears_24 : decode b_RR_readYears 24 = .ok (.invokevirtual 58, 3) := by decide +kernel
theorem d_RR_readYears_27 : decode b_RR_readYears 27 = .ok (.ifCond .ne 5, 3) := by decide +kernel
theorem d_RR_readYears_30 : decode b_RR_readYears 30 = .ok (.iconst 0, 1) := by decide +kernel
theorem d_RR_readYears_31 : decode b_RR_readYears 31 = .ok (.ireturn, 1) := by decide +kernel
theorem d_RR_readYears_32 : decode b_RR_readYears 32 = .ok (.aload_n 0, 1) := by decide +kernel
theorem d_RR_readYears_33 : decode b_RR_readYears 33 = .ok (.sipush 1000, 3) := by decide +kernel
theorem d_RR_readYears_36 : decode b_RR_readYears 36 = .ok (.iload_n 2, 1) := by decide +kernel
theorem d_RR_readYears_37 : decode b_RR_readYears 37 = .ok (.iload_n 1, 1) := by decide +kernel
theorem d_RR_readYears_38 : decode b_RR_readYears 38 = .ok (.invokevirtual 62, 3) := by decide +kernel
theorem d_RR_readYears_41 : decode b_RR_readYears 41 = .ok (.istore_n 3, 1) := by decide +kernel
theorem d_RR_readYears_42 : decode b_RR_readYears 42 = .ok (.aload_n 0, 1) := by decide +kernel
theorem d_RR_readYears_43 : decode b_RR_readYears 43 = .ok (.getfield 34, 3) := by decide +kernel
theorem d_RR_readYears_46 : decode b_RR_readYears 46 = .ok (.bipush 89, 2) := by decide +kernel
theorem d_RR_readYears_48 : decode b_RR_readYears 48 = .ok (.iload_n 2, 1) := by decide +kernel
theorem d_RR_readYears_49 : decode b_RR_readYears 49 = .ok (.iload_n 3, 1) := by decide +kernel
theorem d_RR_readYears_50 : decode b_RR_readYears 50 = .ok (.invokevirtual 128, 3) := by decide +kernel
theorem d_RR_readYears_53 : decode b_RR_readYears 53 = .ok (.iload_n 3, 1) := by decide +kernel
theorem d_RR_readYears_54 : decode b_RR_readYears 54 = .ok (.iconst (-1), 1) := by decide +kernel
theorem d_RR_readYears_55 : decode b_RR_readYears 55 = .ok (.if_icmp .eq 7, 3) := by decide +kernel
theorem d_RR_readYears_58 : decode b_RR_readYears 58 = .ok (.iconst 1, 1) := by decide +kernel
theorem d_RR_readYears_59 : decode b_RR_readYears 59 = .ok (.goto 4, 3) := by decide +kernel
theorem d_RR_readYears_62 : decode b_RR_readYears 62 = .ok (.iconst 0, 1) := by decide +kernel
theorem d_RR_readYears_63 : decode b_RR_readYears 63 = .ok (.ireturn, 1) := by decide +kernel
theorem d_RR_take_0 : decode b_RR_take 0 = .ok (.aload_n 0, 1) := by decide +kernel
theorem d_RR_take_1 : decode b_RR_take 1 = .ok (.getfield 46, 3) := by decide +kernel
theorem d_RR_take_4 : decode b_RR_take 4 = .ok (.aload_n 0, 1) := by decide +kernel
theorem d_RR_take_5 : decode b_RR_take 5 = .ok (.getfield 42, 3) := by decide +kernel
theorem d_RR_take_8 : decode b_RR_take 8 = .ok (.if_icmp .ge 16, 3) := by decide +kernel
theorem d_RR_take_11 : decode b_RR_take 11 = .ok (.aload_n 0, 1) := by decide +kernel
theorem d_RR_take_12 : decode b_RR_take 12 = .ok (.getfield 38, 3) := by decide +kernel
theorem d_RR_take_15 : decode b_RR_take 15 = .ok (.aload_n 0, 1) := by decide +kernel
theorem d_RR_take_16 : decode b_RR_take 16 = .ok (.getfield 46, 3) := by decide +kernel
theorem d_RR_take_19 : decode b_RR_take 19 = .ok (.caload, 1) := by decide +kernel
theorem d_RR_take_20 : decode b_RR_take 20 = .ok (.iload_n 1, 1) := by decide +kernel
theorem d_RR_take_21 : decode b_RR_take 21 = .ok (.if_icmp .eq 5, 3) := by decide +kernel
theorem d_RR_take_24 : decode b_RR_take 24 = .ok (.iconst 0, 1) := by decide +kernel
theorem d_RR_take_25 : decode b_RR_take 25 = .ok (.ireturn, 1) := by decide +kernel
theorem d_RR_take_26 : decode b_RR_take 26 = .ok (.aload_n 0, 1) := by decide +kernel
theorem d_RR_take_27 : decode b_RR_take 27 = .ok (.dup, 1) := by decide +kernel
theorem d_RR_take_28 : decode b_RR_take 28 = .ok (.getfield 46, 3) := by decide +kernel
theorem d_RR_take_31 : decode b_RR_take 31 = .ok (.iconst 1, 1) := by decide +kernel
theorem d_RR_take_32 : decode b_RR_take 32 = .ok (.iadd, 1) := by decide +kernel
theorem d_RR_take_33 : decode b_RR_take 33 = .ok (.putfield 46, 3) := by decide +kernel
theorem d_RR_take_36 : decode b_RR_take 36 = .ok (.iconst 1, 1) := by decide +kernel
theorem d_RR_take_37 : decode b_RR_take 37 = .ok (.ireturn, 1) := by decide +kernel
theorem d_RR_takeNumber_0 : decode b_RR_takeNumber 0 = .ok (.iconst 0, 1) := by decide +kernel
theorem d_RR_takeNumber_1 : decode b_RR_takeNumber 1 = .ok (.istore 4, 2) := by decide +kernel
theorem d_RR_takeNumber_3 : decode b_RR_takeNumber 3 = .ok (.iload_n 1, 1) := by decide +kernel
theorem d_RR_takeNumber_4 : decode b_RR_takeNumber 4 = .ok (.istore 5, 2) := by decide +kernel
theorem d_RR_takeNumber_6 : decode b_RR_takeNumber 6 = .ok (.iload 5, 2) := by decide +kernel
theorem d_RR_takeNumber_8 : decode b_RR_takeNumber 8 = .ok (.ifCond .le 103, 3) := by decide +kernel
theorem d_RR_takeNumber_11 : decode b_RR_takeNumber 11 = .ok (.aload_n 0, 1) := by decide +kernel
theorem d_RR_takeNumber_12 : decode b_RR_takeNumber 12 = .ok (.getfield 46, 3) := by decide +kernel
theorem d_RR_takeNumber_15 : decode b_RR_takeNumber 15 = .ok (.aload_n 0, 1) := by decide +kernel
theorem d_RR_takeNumber_16 : decode b_RR_takeNumber 16 = .ok (.getfield 42, 3) := by decide +kernel
theorem d_RR_takeNumber_19 : decode b_RR_takeNumber 19 = .ok (.if_icmp .ge 31, 3) := by decide +kernel
theorem d_RR_takeNumber_22 : decode b_RR_takeNumber 22 = .ok (.aload_n 0, 1) := by decide +kernel
theorem d_RR_takeNumber_23 : decode b_RR_takeNumber 23 = .ok (.getfield 38, 3) := by decide +kernel
theorem d_RR_takeNumber_26 : decode b_RR_takeNumber 26 = .ok (.aload_n 0, 1) := by decide +kernel
theorem d_RR_takeNumber_27 : decode b_RR_takeNumber 27 = .ok (.getfield 46, 3) := by decide +kernel
theorem d_RR_takeNumber_30 : decode b_RR_takeNumber 30 = .ok (.caload, 1) := by decide +kernel
theorem d_RR_takeNumber_31 : decode b_RR_takeNumber 31 = .ok (.bipush 48, 2) := by decide +kernel
theorem d_RR_takeNumber_33 : decode b_RR_takeNumber 33 = .ok (.if_icmp .lt 17, 3) := by decide +kernel
theorem d_RR_takeNumber_36 : decode b_RR_takeNumber 36 = .ok (.aload_n 0, 1) := by decide +kernel
theorem d_RR_takeNumber_37 : decode b_RR_takeNumber 37 = .ok (.getfield 38, 3) := by decide +kernel
theorem d_RR_takeNumber_40 : decode b_RR_takeNumber 40 = .ok (.aload_n 0, 1) := by decide +kernel
theorem d_RR_takeNumber_41 : decode b_RR_takeNumber 41 = .ok (.getfield 46, 3) := by decide +kernel
theorem d_RR_takeNumber_44 : decode b_RR_takeNumber 44 = .ok (.caload, 1) := by decide +kernel
theorem d_RR_takeNumber_45 : decode b_RR_takeNumber 45 = .ok (.bipush 57, 2) := by decide +kernel
theorem d_RR_takeNumber_47 : decode b_RR_takeNumber 47 = .ok (.if_icmp .le 5, 3) := by decide +kernel
theorem d_RR_takeNumber_50 : decode b_RR_takeNumber 50 = .ok (.iconst (-1), 1) := by decide +kernel
theorem d_RR_takeNumber_51 : decode b_RR_takeNumber 51 = .ok (.ireturn, 1) := by decide +kernel
theorem d_RR_takeNumber_52 : decode b_RR_takeNumber 52 = .ok (.iload 4, 2) := by decide +kernel
theorem d_RR_takeNumber_54 : decode b_RR_takeNumber 54 = .ok (.aload_n 0, 1) := by decide +kernel
theorem d_RR_takeNumber_55 : decode b_RR_takeNumber 55 = .ok (.getfield 38, 3) := by decide +kernel
theorem d_RR_takeNumber_58 : decode b_RR_takeNumber 58 = .ok (.aload_n 0, 1) := by decide +kernel
theorem d_RR_takeNumber_59 : decode b_RR_takeNumber 59 = .ok (.getfield 46, 3) := by decide +kernel
theorem d_RR_takeNumber_62 : decode b_RR_takeNumber 62 = .ok (.caload, 1) := by decide +kernel
theorem d_RR_takeNumber_63 : decode b_RR_takeNumber 63 = .ok (.bipush 48, 2) := by decide +kernel
theorem d_RR_takeNumber_65 : decode b_RR_takeNumber 65 = .ok (.isub, 1) := by decide +kernel
theorem d_RR_takeNumber_66 : decode b_RR_takeNumber 66 = .ok (.iload 5, 2) := by decide +kernel
theorem d_RR_takeNumber_68 : decode b_RR_takeNumber 68 = .ok (.imul, 1) := by decide +kernel
theorem d_RR_takeNumber_69 : decode b_RR_takeNumber 69 = .ok (.iadd, 1) := by decide +kernel
theorem d_RR_takeNumber_70 : decode b_RR_takeNumber 70 = .ok (.istore 4, 2) := by decide +kernel
theorem d_RR_takeNumber_72 : decode b_RR_takeNumber 72 = .ok (.iload 4, 2) := by decide +kernel
theorem d_RR_takeNumber_74 : decode b_RR_takeNumber 74 = .ok (.iload_n 3, 1) := by decide +kernel
theorem d_RR_takeNumber_75 : decode b_RR_takeNumber 75 = .ok (.if_icmp .gt 14, 3) := by decide +kernel
theorem d_RR_takeNumber_78 : decode b_RR_takeNumber 78 = .ok (.iload 4, 2) := by decide +kernel
theorem d_RR_takeNumber_80 : decode b_RR_takeNumber 80 = .ok (.iload 5, 2) := by decide +kernel
theorem d_RR_takeNumber_82 : decode b_RR_takeNumber 82 = .ok (.iadd, 1) := by decide +kernel
theorem d_RR_takeNumber_83 : decode b_RR_takeNumber 83 = .ok (.iconst 1, 1) := by decide +kernel
theorem d_RR_takeNumber_84 : decode b_RR_takeNumber 84 = .ok (.isub, 1) := by decide +kernel
theorem d_RR_takeNumber_85 : decode b_RR_takeNumber 85 = .ok (.iload_n 2, 1) := by decide +kernel
theorem d_RR_takeNumber_86 : decode b_RR_takeNumber 86 = .ok (.if_icmp .ge 5, 3) := by decide +kernel
theorem d_RR_takeNumber_89 : decode b_RR_takeNumber 89 = .ok (.iconst (-1), 1) := by decide +kernel
theorem d_RR_takeNumber_90 : decode b_RR_takeNumber 90 = .ok (.ireturn, 1) := by decide +kernel
theorem d_RR_takeNumber_91 : decode b_RR_takeNumber 91 = .ok (.aload_n 0, 1) := by decide +kernel
theorem d_RR_takeNumber_92 : decode b_RR_takeNumber 92 = .ok (.dup, 1) := by decide +kernel
theorem d_RR_takeNumber_93 : decode b_RR_takeNumber 93 = .ok (.getfield 46, 3) := by decide +kernel
theorem d_RR_takeNumber_96 : decode b_RR_takeNumber 96 = .ok (.iconst 1, 1) := by decide +kernel
theorem d_RR_takeNumber_97 : decode b_RR_takeNumber 97 = .ok (.iadd, 1) := by decide +kernel
theorem d_RR_takeNumber_98 : decode b_RR_takeNumber 98 = .ok (.putfield 46, 3) := by decide +kernel
theorem d_RR_takeNumber_101 : decode b_RR_takeNumber 101 = .ok (.iload 5, 2) := by decide +kernel
theorem d_RR_takeNumber_103 : decode b_RR_takeNumber 103 = .ok (.bipush 10, 2) := by decide +kernel
theorem d_RR_takeNumber_105 : decode b_RR_takeNumber 105 = .ok (.idiv, 1) := by decide +kernel
theorem d_RR_takeNumber_106 : decode b_RR_takeNumber 106 = .ok (.istore 5, 2) := by decide +kernel
theorem d_RR_takeNumber_108 : decode b_RR_takeNumber 108 = .ok (.goto (-102), 3) := by decide +kernel
theorem d_RR_takeNumber_111 : decode b_RR_takeNumber 111 = .ok (.iload 4, 2) := by decide +kernel
theorem d_RR_takeNumber_113 : decode b_RR_takeNumber 113 = .ok (.ireturn, 1) := by decide +kernel
