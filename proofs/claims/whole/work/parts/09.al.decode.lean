theorem d_AL_date_0 : decode b_AL_date 0 = .ok (.aload_n 0, 1) := by decide +kernel
theorem d_AL_date_1 : decode b_AL_date 1 = .ok (.getfield 9, 3) := by decide +kernel
theorem d_AL_date_4 : decode b_AL_date 4 = .ok (.iload_n 1, 1) := by decide +kernel
theorem d_AL_date_5 : decode b_AL_date 5 = .ok (.iaload, 1) := by decide +kernel
theorem d_AL_date_6 : decode b_AL_date 6 = .ok (.ireturn, 1) := by decide +kernel
theorem d_AL_monthAndDay_0 : decode b_AL_monthAndDay 0 = .ok (.aload_n 0, 1) := by decide +kernel
theorem d_AL_monthAndDay_1 : decode b_AL_monthAndDay 1 = .ok (.getfield 9, 3) := by decide +kernel
theorem d_AL_monthAndDay_4 : decode b_AL_monthAndDay 4 = .ok (.iload_n 1, 1) := by decide +kernel
theorem d_AL_monthAndDay_5 : decode b_AL_monthAndDay 5 = .ok (.iaload, 1) := by decide +kernel
theorem d_AL_monthAndDay_6 : decode b_AL_monthAndDay 6 = .ok (.sipush 10000, 3) := by decide +kernel
theorem d_AL_monthAndDay_9 : decode b_AL_monthAndDay 9 = .ok (.irem, 1) := by decide +kernel
theorem d_AL_monthAndDay_10 : decode b_AL_monthAndDay 10 = .ok (.ireturn, 1) := by decide +kernel
theorem d_AL_feastDay_0 : decode b_AL_feastDay 0 = .ok (.aload_n 0, 1) := by decide +kernel
theorem d_AL_feastDay_1 : decode b_AL_feastDay 1 = .ok (.getfield 15, 3) := by decide +kernel
theorem d_AL_feastDay_4 : decode b_AL_feastDay 4 = .ok (.iload_n 1, 1) := by decide +kernel
theorem d_AL_feastDay_5 : decode b_AL_feastDay 5 = .ok (.invokestatic 30, 3) := by decide +kernel
theorem d_AL_feastDay_8 : decode b_AL_feastDay 8 = .ok (.iaload, 1) := by decide +kernel
theorem d_AL_feastDay_9 : decode b_AL_feastDay 9 = .ok (.ireturn, 1) := by decide +kernel
theorem d_AL_hasRank_0 : decode b_AL_hasRank 0 = .ok (.aload_n 0, 1) := by decide +kernel
theorem d_AL_hasRank_1 : decode b_AL_hasRank 1 = .ok (.getfield 9, 3) := by decide +kernel
theorem d_AL_hasRank_4 : decode b_AL_hasRank 4 = .ok (.iload_n 1, 1) := by decide +kernel
theorem d_AL_hasRank_5 : decode b_AL_hasRank 5 = .ok (.iaload, 1) := by decide +kernel
theorem d_AL_hasRank_6 : decode b_AL_hasRank 6 = .ok (.bipush 100, 2) := by decide +kernel
theorem d_AL_hasRank_8 : decode b_AL_hasRank 8 = .ok (.irem, 1) := by decide +kernel
theorem d_AL_hasRank_9 : decode b_AL_hasRank 9 = .ok (.istore_n 3, 1) := by decide +kernel
theorem d_AL_hasRank_10 : decode b_AL_hasRank 10 = .ok (.iload_n 2, 1) := by decide +kernel
theorem d_AL_hasRank_11 : decode b_AL_hasRank 11 = .ok (.ifCond .le 21, 3) := by decide +kernel
theorem d_AL_hasRank_14 : decode b_AL_hasRank 14 = .ok (.iload_n 3, 1) := by decide +kernel
theorem d_AL_hasRank_15 : decode b_AL_hasRank 15 = .ok (.iconst 1, 1) := by decide +kernel
theorem d_AL_hasRank_16 : decode b_AL_hasRank 16 = .ok (.isub, 1) := by decide +kernel
theorem d_AL_hasRank_17 : decode b_AL_hasRank 17 = .ok (.bipush 7, 2) := by decide +kernel
theorem d_AL_hasRank_19 : decode b_AL_hasRank 19 = .ok (.idiv, 1) := by decide +kernel
theorem d_AL_hasRank_20 : decode b_AL_hasRank 20 = .ok (.iconst 1, 1) := by decide +kernel
theorem d_AL_hasRank_21 : decode b_AL_hasRank 21 = .ok (.iadd, 1) := by decide +kernel
theorem d_AL_hasRank_22 : decode b_AL_hasRank 22 = .ok (.iload_n 2, 1) := by decide +kernel
theorem d_AL_hasRank_23 : decode b_AL_hasRank 23 = .ok (.if_icmp .ne 7, 3) := by decide +kernel
theorem d_AL_hasRank_26 : decode b_AL_hasRank 26 = .ok (.iconst 1, 1) := by decide +kernel
theorem d_AL_hasRank_27 : decode b_AL_hasRank 27 = .ok (.goto 4, 3) := by decide +kernel
theorem d_AL_hasRank_30 : decode b_AL_hasRank 30 = .ok (.iconst 0, 1) := by decide +kernel
theorem d_AL_hasRank_31 : decode b_AL_hasRank 31 = .ok (.ireturn, 1) := by decide +kernel
theorem d_AL_hasRank_32 : decode b_AL_hasRank 32 = .ok (.iload_n 3, 1) := by decide +kernel
theorem d_AL_hasRank_33 : decode b_AL_hasRank 33 = .ok (.bipush 7, 2) := by decide +kernel
theorem d_AL_hasRank_35 : decode b_AL_hasRank 35 = .ok (.iadd, 1) := by decide +kernel
theorem d_AL_hasRank_36 : decode b_AL_hasRank 36 = .ok (.aload_n 0, 1) := by decide +kernel
theorem d_AL_hasRank_37 : decode b_AL_hasRank 37 = .ok (.getfield 9, 3) := by decide +kernel
theorem d_AL_hasRank_40 : decode b_AL_hasRank 40 = .ok (.iload_n 1, 1) := by decide +kernel
theorem d_AL_hasRank_41 : decode b_AL_hasRank 41 = .ok (.iaload, 1) := by decide +kernel
theorem d_AL_hasRank_42 : decode b_AL_hasRank 42 = .ok (.sipush 10000, 3) := by decide +kernel
theorem d_AL_hasRank_45 : decode b_AL_hasRank 45 = .ok (.idiv, 1) := by decide +kernel
theorem d_AL_hasRank_46 : decode b_AL_hasRank 46 = .ok (.aload_n 0, 1) := by decide +kernel
theorem d_AL_hasRank_47 : decode b_AL_hasRank 47 = .ok (.getfield 9, 3) := by decide +kernel
theorem d_AL_hasRank_50 : decode b_AL_hasRank 50 = .ok (.iload_n 1, 1) := by decide +kernel
theorem d_AL_hasRank_51 : decode b_AL_hasRank 51 = .ok (.iaload, 1) := by decide +kernel
theorem d_AL_hasRank_52 : decode b_AL_hasRank 52 = .ok (.bipush 100, 2) := by decide +kernel
theorem d_AL_hasRank_54 : decode b_AL_hasRank 54 = .ok (.idiv, 1) := by decide +kernel
theorem d_AL_hasRank_55 : decode b_AL_hasRank 55 = .ok (.bipush 100, 2) := by decide +kernel
theorem d_AL_hasRank_57 : decode b_AL_hasRank 57 = .ok (.irem, 1) := by decide +kernel
theorem d_AL_hasRank_58 : decode b_AL_hasRank 58 = .ok (.invokestatic 18, 3) := by decide +kernel
theorem d_AL_hasRank_61 : decode b_AL_hasRank 61 = .ok (.if_icmp .le 7, 3) := by decide +kernel
theorem d_AL_hasRank_64 : decode b_AL_hasRank 64 = .ok (.iconst 1, 1) := by decide +kernel
theorem d_AL_hasRank_65 : decode b_AL_hasRank 65 = .ok (.goto 4, 3) := by decide +kernel
theorem d_AL_hasRank_68 : decode b_AL_hasRank 68 = .ok (.iconst 0, 1) := by decide +kernel
theorem d_AL_hasRank_69 : decode b_AL_hasRank 69 = .ok (.ireturn, 1) := by decide +kernel
theorem d_AL_monthLength_0 : decode b_AL_monthLength 0 = .ok (.iload_n 1, 1) := by decide +kernel
theorem d_AL_monthLength_1 : decode b_AL_monthLength 1 = .ok (.iconst 1, 1) := by decide +kernel
theorem d_AL_monthLength_2 : decode b_AL_monthLength 2 = .ok (.if_icmp .lt 9, 3) := by decide +kernel
theorem d_AL_monthLength_5 : decode b_AL_monthLength 5 = .ok (.iload_n 1, 1) := by decide +kernel
theorem d_AL_monthLength_6 : decode b_AL_monthLength 6 = .ok (.bipush 12, 2) := by decide +kernel
theorem d_AL_monthLength_8 : decode b_AL_monthLength 8 = .ok (.if_icmp .le 5, 3) := by decide +kernel
theorem d_AL_monthLength_11 : decode b_AL_monthLength 11 = .ok (.iconst 0, 1) := by decide +kernel
theorem d_AL_monthLength_12 : decode b_AL_monthLength 12 = .ok (.ireturn, 1) := by decide +kernel
theorem d_AL_monthLength_13 : decode b_AL_monthLength 13 = .ok (.iload_n 1, 1) := by decide +kernel
theorem d_AL_monthLength_14 : decode b_AL_monthLength 14 = .ok (.iconst 2, 1) := by decide +kernel
theorem d_AL_monthLength_15 : decode b_AL_monthLength 15 = .ok (.if_icmp .ne 15, 3) := by decide +kernel
theorem d_AL_monthLength_18 : decode b_AL_monthLength 18 = .ok (.iload_n 0, 1) := by decide +kernel
theorem d_AL_monthLength_19 : decode b_AL_monthLength 19 = .ok (.sipush 2000, 3) := by decide +kernel
theorem d_AL_monthLength_22 : decode b_AL_monthLength 22 = .ok (.if_icmp .eq 8, 3) := by decide +kernel
theorem d_AL_monthLength_25 : decode b_AL_monthLength 25 = .ok (.bipush 28, 2) := by decide +kernel
theorem d_AL_monthLength_27 : decode b_AL_monthLength 27 = .ok (.goto 8, 3) := by decide +kernel
theorem d_AL_monthLength_30 : decode b_AL_monthLength 30 = .ok (.getstatic 33, 3) := by decide +kernel
theorem d_AL_monthLength_33 : decode b_AL_monthLength 33 = .ok (.iload_n 1, 1) := by decide +kernel
theorem d_AL_monthLength_34 : decode b_AL_monthLength 34 = .ok (.iaload, 1) := by decide +kernel
theorem d_AL_monthLength_35 : decode b_AL_monthLength 35 = .ok (.ireturn, 1) := by decide +kernel
theorem d_AL_weekday_0 : decode b_AL_weekday 0 = .ok (.iload_n 0, 1) := by decide +kernel
theorem d_AL_weekday_1 : decode b_AL_weekday 1 = .ok (.iconst 5, 1) := by decide +kernel
theorem d_AL_weekday_2 : decode b_AL_weekday 2 = .ok (.iadd, 1) := by decide +kernel
theorem d_AL_weekday_3 : decode b_AL_weekday 3 = .ok (.bipush 7, 2) := by decide +kernel
theorem d_AL_weekday_5 : decode b_AL_weekday 5 = .ok (.irem, 1) := by decide +kernel
theorem d_AL_weekday_6 : decode b_AL_weekday 6 = .ok (.iconst 1, 1) := by decide +kernel
theorem d_AL_weekday_7 : decode b_AL_weekday 7 = .ok (.iadd, 1) := by decide +kernel
theorem d_AL_weekday_8 : decode b_AL_weekday 8 = .ok (.ireturn, 1) := by decide +kernel
theorem d_AL_firstDay_0 : decode b_AL_firstDay 0 = .ok (.sipush 365, 3) := by decide +kernel
theorem d_AL_firstDay_3 : decode b_AL_firstDay 3 = .ok (.iload_n 0, 1) := by decide +kernel
theorem d_AL_firstDay_4 : decode b_AL_firstDay 4 = .ok (.sipush 2000, 3) := by decide +kernel
theorem d_AL_firstDay_7 : decode b_AL_firstDay 7 = .ok (.isub, 1) := by decide +kernel
theorem d_AL_firstDay_8 : decode b_AL_firstDay 8 = .ok (.imul, 1) := by decide +kernel
theorem d_AL_firstDay_9 : decode b_AL_firstDay 9 = .ok (.iload_n 0, 1) := by decide +kernel
theorem d_AL_firstDay_10 : decode b_AL_firstDay 10 = .ok (.sipush 2000, 3) := by decide +kernel
theorem d_AL_firstDay_13 : decode b_AL_firstDay 13 = .ok (.if_icmp .le 7, 3) := by decide +kernel
theorem d_AL_firstDay_16 : decode b_AL_firstDay 16 = .ok (.iconst 1, 1) := by decide +kernel
theorem d_AL_firstDay_17 : decode b_AL_firstDay 17 = .ok (.goto 4, 3) := by decide +kernel
theorem d_AL_firstDay_20 : decode b_AL_firstDay 20 = .ok (.iconst 0, 1) := by decide +kernel
theorem d_AL_firstDay_21 : decode b_AL_firstDay 21 = .ok (.iadd, 1) := by decide +kernel
theorem d_AL_firstDay_22 : decode b_AL_firstDay 22 = .ok (.ireturn, 1) := by decide +kernel
theorem d_AL_dayNumber_0 : decode b_AL_dayNumber 0 = .ok (.iload_n 0, 1) := by decide +kernel
theorem d_AL_dayNumber_1 : decode b_AL_dayNumber 1 = .ok (.sipush 2000, 3) := by decide +kernel
theorem d_AL_dayNumber_4 : decode b_AL_dayNumber 4 = .ok (.if_icmp .lt 24, 3) := by decide +kernel
theorem d_AL_dayNumber_7 : decode b_AL_dayNumber 7 = .ok (.iload_n 0, 1) := by decide +kernel
theorem d_AL_dayNumber_8 : decode b_AL_dayNumber 8 = .ok (.sipush 2004, 3) := by decide +kernel
theorem d_AL_dayNumber_11 : decode b_AL_dayNumber 11 = .ok (.if_icmp .ge 17, 3) := by decide +kernel
theorem d_AL_dayNumber_14 : decode b_AL_dayNumber 14 = .ok (.iload_n 2, 1) := by decide +kernel
theorem d_AL_dayNumber_15 : decode b_AL_dayNumber 15 = .ok (.iconst 1, 1) := by decide +kernel
theorem d_AL_dayNumber_16 : decode b_AL_dayNumber 16 = .ok (.if_icmp .lt 12, 3) := by decide +kernel
theorem d_AL_dayNumber_19 : decode b_AL_dayNumber 19 = .ok (.iload_n 2, 1) := by decide +kernel
theorem d_AL_dayNumber_20 : decode b_AL_dayNumber 20 = .ok (.iload_n 0, 1) := by decide +kernel
theorem d_AL_dayNumber_21 : decode b_AL_dayNumber 21 = .ok (.iload_n 1, 1) := by decide +kernel
theorem d_AL_dayNumber_22 : decode b_AL_dayNumber 22 = .ok (.invokestatic 18, 3) := by decide +kernel
theorem d_AL_dayNumber_25 : decode b_AL_dayNumber 25 = .ok (.if_icmp .le 5, 3) := by decide +kernel
theorem d_AL_dayNumber_28 : decode b_AL_dayNumber 28 = .ok (.iconst (-1), 1) := by decide +kernel
theorem d_AL_dayNumber_29 : decode b_AL_dayNumber 29 = .ok (.ireturn, 1) := by decide +kernel
theorem d_AL_dayNumber_30 : decode b_AL_dayNumber 30 = .ok (.iload_n 0, 1) := by decide +kernel
theorem d_AL_dayNumber_31 : decode b_AL_dayNumber 31 = .ok (.invokestatic 36, 3) := by decide +kernel
theorem d_AL_dayNumber_34 : decode b_AL_dayNumber 34 = .ok (.iload_n 2, 1) := by decide +kernel
theorem d_AL_dayNumber_35 : decode b_AL_dayNumber 35 = .ok (.iadd, 1) := by decide +kernel
theorem d_AL_dayNumber_36 : decode b_AL_dayNumber 36 = .ok (.iconst 1, 1) := by decide +kernel
theorem d_AL_dayNumber_37 : decode b_AL_dayNumber 37 = .ok (.isub, 1) := by decide +kernel
theorem d_AL_dayNumber_38 : decode b_AL_dayNumber 38 = .ok (.istore_n 3, 1) := by decide +kernel
theorem d_AL_dayNumber_39 : decode b_AL_dayNumber 39 = .ok (.iconst 1, 1) := by decide +kernel
theorem d_AL_dayNumber_40 : decode b_AL_dayNumber 40 = .ok (.istore 4, 2) := by decide +kernel
theorem d_AL_dayNumber_42 : decode b_AL_dayNumber 42 = .ok (.iload 4, 2) := by decide +kernel
theorem d_AL_dayNumber_44 : decode b_AL_dayNumber 44 = .ok (.iload_n 1, 1) := by decide +kernel
theorem d_AL_dayNumber_45 : decode b_AL_dayNumber 45 = .ok (.if_icmp .ge 18, 3) := by decide +kernel
theorem d_AL_dayNumber_48 : decode b_AL_dayNumber 48 = .ok (.iload_n 3, 1) := by decide +kernel
theorem d_AL_dayNumber_49 : decode b_AL_dayNumber 49 = .ok (.iload_n 0, 1) := by decide +kernel
theorem d_AL_dayNumber_50 : decode b_AL_dayNumber 50 = .ok (.iload 4, 2) := by decide +kernel
theorem d_AL_dayNumber_52 : decode b_AL_dayNumber 52 = .ok (.invokestatic 18, 3) := by decide +kernel
theorem d_AL_dayNumber_55 : decode b_AL_dayNumber 55 = .ok (.iadd, 1) := by decide +kernel
theorem d_AL_dayNumber_56 : decode b_AL_dayNumber 56 = .ok (.istore_n 3, 1) := by decide +kernel
theorem d_AL_dayNumber_57 : decode b_AL_dayNumber 57 = .ok (.iinc 4 1, 3) := by decide +kernel
theorem d_AL_dayNumber_60 : decode b_AL_dayNumber 60 = .ok (.goto (-18), 3) := by decide +kernel
theorem d_AL_dayNumber_63 : decode b_AL_dayNumber 63 = .ok (.iload_n 3, 1) := by decide +kernel
theorem d_AL_dayNumber_64 : decode b_AL_dayNumber 64 = .ok (.ireturn, 1) := by decide +kernel
theorem d_AL_lastSunday_0 : decode b_AL_lastSunday 0 = .ok (.iload_n 0, 1) := by decide +kernel
theorem d_AL_lastSunday_1 : decode b_AL_lastSunday 1 = .ok (.iload_n 1, 1) := by decide +kernel
theorem d_AL_lastSunday_2 : decode b_AL_lastSunday 2 = .ok (.iload_n 0, 1) := by decide +kernel
theorem d_AL_lastSunday_3 : decode b_AL_lastSunday 3 = .ok (.iload_n 1, 1) := by decide +kernel
theorem d_AL_lastSunday_4 : decode b_AL_lastSunday 4 = .ok (.invokestatic 18, 3) := by decide +kernel
theorem d_AL_lastSunday_7 : decode b_AL_lastSunday 7 = .ok (.invokestatic 26, 3) := by decide +kernel
theorem d_AL_lastSunday_10 : decode b_AL_lastSunday 10 = .ok (.istore_n 2, 1) := by decide +kernel
theorem d_AL_lastSunday_11 : decode b_AL_lastSunday 11 = .ok (.iload_n 2, 1) := by decide +kernel
theorem d_AL_lastSunday_12 : decode b_AL_lastSunday 12 = .ok (.iload_n 2, 1) := by decide +kernel
theorem d_AL_lastSunday_13 : decode b_AL_lastSunday 13 = .ok (.invokestatic 39, 3) := by decide +kernel
theorem d_AL_lastSunday_16 : decode b_AL_lastSunday 16 = .ok (.bipush 7, 2) := by decide +kernel
theorem d_AL_lastSunday_18 : decode b_AL_lastSunday 18 = .ok (.irem, 1) := by decide +kernel
theorem d_AL_lastSunday_19 : decode b_AL_lastSunday 19 = .ok (.isub, 1) := by decide +kernel
theorem d_AL_lastSunday_20 : decode b_AL_lastSunday 20 = .ok (.ireturn, 1) := by decide +kernel
theorem d_AL_week_0 : decode b_AL_week 0 = .ok (.iload_n 0, 1) := by decide +kernel
theorem d_AL_week_1 : decode b_AL_week 1 = .ok (.iload_n 0, 1) := by decide +kernel
theorem d_AL_week_2 : decode b_AL_week 2 = .ok (.invokestatic 39, 3) := by decide +kernel
theorem d_AL_week_5 : decode b_AL_week 5 = .ok (.isub, 1) := by decide +kernel
theorem d_AL_week_6 : decode b_AL_week 6 = .ok (.iconst 4, 1) := by decide +kernel
theorem d_AL_week_7 : decode b_AL_week 7 = .ok (.iadd, 1) := by decide +kernel
theorem d_AL_week_8 : decode b_AL_week 8 = .ok (.istore_n 1, 1) := by decide +kernel
theorem d_AL_week_9 : decode b_AL_week 9 = .ok (.sipush 2000, 3) := by decide +kernel
theorem d_AL_week_12 : decode b_AL_week 12 = .ok (.iload_n 1, 1) := by decide +kernel
theorem d_AL_week_13 : decode b_AL_week 13 = .ok (.invokestatic 30, 3) := by decide +kernel
theorem d_AL_week_16 : decode b_AL_week 16 = .ok (.iadd, 1) := by decide +kernel
theorem d_AL_week_17 : decode b_AL_week 17 = .ok (.istore_n 2, 1) := by decide +kernel
theorem d_AL_week_18 : decode b_AL_week 18 = .ok (.iload_n 1, 1) := by decide +kernel
theorem d_AL_week_19 : decode b_AL_week 19 = .ok (.ifCond .ge 7, 3) := by decide +kernel
theorem d_AL_week_22 : decode b_AL_week 22 = .ok (.sipush 1999, 3) := by decide +kernel
theorem d_AL_week_25 : decode b_AL_week 25 = .ok (.istore_n 2, 1) := by decide +kernel
theorem d_AL_week_26 : decode b_AL_week 26 = .ok (.bipush 100, 2) := by decide +kernel
theorem d_AL_week_28 : decode b_AL_week 28 = .ok (.iload_n 2, 1) := by decide +kernel
theorem d_AL_week_29 : decode b_AL_week 29 = .ok (.imul, 1) := by decide +kernel
theorem d_AL_week_30 : decode b_AL_week 30 = .ok (.iload_n 1, 1) := by decide +kernel
theorem d_AL_week_31 : decode b_AL_week 31 = .ok (.iload_n 2, 1) := by decide +kernel
theorem d_AL_week_32 : decode b_AL_week 32 = .ok (.invokestatic 36, 3) := by decide +kernel
theorem d_AL_week_35 : decode b_AL_week 35 = .ok (.isub, 1) := by decide +kernel
theorem d_AL_week_36 : decode b_AL_week 36 = .ok (.bipush 7, 2) := by decide +kernel
theorem d_AL_week_38 : decode b_AL_week 38 = .ok (.idiv, 1) := by decide +kernel
theorem d_AL_week_39 : decode b_AL_week 39 = .ok (.iadd, 1) := by decide +kernel
theorem d_AL_week_40 : decode b_AL_week 40 = .ok (.iconst 1, 1) := by decide +kernel
theorem d_AL_week_41 : decode b_AL_week 41 = .ok (.iadd, 1) := by decide +kernel
theorem d_AL_week_42 : decode b_AL_week 42 = .ok (.ireturn, 1) := by decide +kernel
theorem d_AL_feastDate_0 : decode b_AL_feastDate 0 = .ok (.iload_n 0, 1) := by decide +kernel
theorem d_AL_feastDate_1 : decode b_AL_feastDate 1 = .ok (.sipush 1900, 3) := by decide +kernel
theorem d_AL_feastDate_4 : decode b_AL_feastDate 4 = .ok (.if_icmp .lt 10, 3) := by decide +kernel
theorem d_AL_feastDate_7 : decode b_AL_feastDate 7 = .ok (.iload_n 0, 1) := by decide +kernel
theorem d_AL_feastDate_8 : decode b_AL_feastDate 8 = .ok (.sipush 2299, 3) := by decide +kernel
theorem d_AL_feastDate_11 : decode b_AL_feastDate 11 = .ok (.if_icmp .le 5, 3) := by decide +kernel
theorem d_AL_feastDate_14 : decode b_AL_feastDate 14 = .ok (.iconst (-1), 1) := by decide +kernel
theorem d_AL_feastDate_15 : decode b_AL_feastDate 15 = .ok (.ireturn, 1) := by decide +kernel
theorem d_AL_feastDate_16 : decode b_AL_feastDate 16 = .ok (.iload_n 0, 1) := by decide +kernel
theorem d_AL_feastDate_17 : decode b_AL_feastDate 17 = .ok (.bipush 19, 2) := by decide +kernel
theorem d_AL_feastDate_19 : decode b_AL_feastDate 19 = .ok (.irem, 1) := by decide +kernel
theorem d_AL_feastDate_20 : decode b_AL_feastDate 20 = .ok (.istore_n 1, 1) := by decide +kernel
theorem d_AL_feastDate_21 : decode b_AL_feastDate 21 = .ok (.iload_n 0, 1) := by decide +kernel
theorem d_AL_feastDate_22 : decode b_AL_feastDate 22 = .ok (.bipush 100, 2) := by decide +kernel
theorem d_AL_feastDate_24 : decode b_AL_feastDate 24 = .ok (.idiv, 1) := by decide +kernel
theorem d_AL_feastDate_25 : decode b_AL_feastDate 25 = .ok (.istore_n 2, 1) := by decide +kernel
theorem d_AL_feastDate_26 : decode b_AL_feastDate 26 = .ok (.iload_n 0, 1) := by decide +kernel
theorem d_AL_feastDate_27 : decode b_AL_feastDate 27 = .ok (.bipush 100, 2) := by decide +kernel
theorem d_AL_feastDate_29 : decode b_AL_feastDate 29 = .ok (.irem, 1) := by decide +kernel
theorem d_AL_feastDate_30 : decode b_AL_feastDate 30 = .ok (.istore_n 3, 1) := by decide +kernel
theorem d_AL_feastDate_31 : decode b_AL_feastDate 31 = .ok (.iload_n 2, 1) := by decide +kernel
theorem d_AL_feastDate_32 : decode b_AL_feastDate 32 = .ok (.iconst 4, 1) := by decide +kernel
theorem d_AL_feastDate_33 : decode b_AL_feastDate 33 = .ok (.idiv, 1) := by decide +kernel
theorem d_AL_feastDate_34 : decode b_AL_feastDate 34 = .ok (.istore 4, 2) := by decide +kernel
theorem d_AL_feastDate_36 : decode b_AL_feastDate 36 = .ok (.iload_n 2, 1) := by decide +kernel
theorem d_AL_feastDate_37 : decode b_AL_feastDate 37 = .ok (.iconst 4, 1) := by decide +kernel
theorem d_AL_feastDate_38 : decode b_AL_feastDate 38 = .ok (.irem, 1) := by decide +kernel
theorem d_AL_feastDate_39 : decode b_AL_feastDate 39 = .ok (.istore 5, 2) := by decide +kernel
theorem d_AL_feastDate_41 : decode b_AL_feastDate 41 = .ok (.iload_n 2, 1) := by decide +kernel
theorem d_AL_feastDate_42 : decode b_AL_feastDate 42 = .ok (.bipush 8, 2) := by decide +kernel
theorem d_AL_feastDate_44 : decode b_AL_feastDate 44 = .ok (.iadd, 1) := by decide +kernel
theorem d_AL_feastDate_45 : decode b_AL_feastDate 45 = .ok (.bipush 25, 2) := by decide +kernel
theorem d_AL_feastDate_47 : decode b_AL_feastDate 47 = .ok (.idiv, 1) := by decide +kernel
theorem d_AL_feastDate_48 : decode b_AL_feastDate 48 = .ok (.istore 6, 2) := by decide +kernel
theorem d_AL_feastDate_50 : decode b_AL_feastDate 50 = .ok (.iload_n 2, 1) := by decide +kernel
theorem d_AL_feastDate_51 : decode b_AL_feastDate 51 = .ok (.iload 6, 2) := by decide +kernel
theorem d_AL_feastDate_53 : decode b_AL_feastDate 53 = .ok (.isub, 1) := by decide +kernel
theorem d_AL_feastDate_54 : decode b_AL_feastDate 54 = .ok (.iconst 1, 1) := by decide +kernel
theorem d_AL_feastDate_55 : decode b_AL_feastDate 55 = .ok (.iadd, 1) := by decide +kernel
theorem d_AL_feastDate_56 : decode b_AL_feastDate 56 = .ok (.iconst 3, 1) := by decide +kernel
theorem d_AL_feastDate_57 : decode b_AL_feastDate 57 = .ok (.idiv, 1) := by decide +kernel
theorem d_AL_feastDate_58 : decode b_AL_feastDate 58 = .ok (.istore 7, 2) := by decide +kernel
theorem d_AL_feastDate_60 : decode b_AL_feastDate 60 = .ok (.bipush 19, 2) := by decide +kernel
theorem d_AL_feastDate_62 : decode b_AL_feastDate 62 = .ok (.iload_n 1, 1) := by decide +kernel
theorem d_AL_feastDate_63 : decode b_AL_feastDate 63 = .ok (.imul, 1) := by decide +kernel
theorem d_AL_feastDate_64 : decode b_AL_feastDate 64 = .ok (.iload_n 2, 1) := by decide +kernel
theorem d_AL_feastDate_65 : decode b_AL_feastDate 65 = .ok (.iadd, 1) := by decide +kernel
theorem d_AL_feastDate_66 : decode b_AL_feastDate 66 = .ok (.iload 4, 2) := by decide +kernel
theorem d_AL_feastDate_68 : decode b_AL_feastDate 68 = .ok (.isub, 1) := by decide +kernel
theorem d_AL_feastDate_69 : decode b_AL_feastDate 69 = .ok (.iload 7, 2) := by decide +kernel
theorem d_AL_feastDate_71 : decode b_AL_feastDate 71 = .ok (.isub, 1) := by decide +kernel
theorem d_AL_feastDate_72 : decode b_AL_feastDate 72 = .ok (.bipush 15, 2) := by decide +kernel
theorem d_AL_feastDate_74 : decode b_AL_feastDate 74 = .ok (.iadd, 1) := by decide +kernel
theorem d_AL_feastDate_75 : decode b_AL_feastDate 75 = .ok (.bipush 30, 2) := by decide +kernel
theorem d_AL_feastDate_77 : decode b_AL_feastDate 77 = .ok (.irem, 1) := by decide +kernel
theorem d_AL_feastDate_78 : decode b_AL_feastDate 78 = .ok (.istore 8, 2) := by decide +kernel
theorem d_AL_feastDate_80 : decode b_AL_feastDate 80 = .ok (.iload_n 3, 1) := by decide +kernel
theorem d_AL_feastDate_81 : decode b_AL_feastDate 81 = .ok (.iconst 4, 1) := by decide +kernel
theorem d_AL_feastDate_82 : decode b_AL_feastDate 82 = .ok (.idiv, 1) := by decide +kernel
theorem d_AL_feastDate_83 : decode b_AL_feastDate 83 = .ok (.istore 9, 2) := by decide +kernel
theorem d_AL_feastDate_85 : decode b_AL_feastDate 85 = .ok (.iload_n 3, 1) := by decide +kernel
theorem d_AL_feastDate_86 : decode b_AL_feastDate 86 = .ok (.iconst 4, 1) := by decide +kernel
theorem d_AL_feastDate_87 : decode b_AL_feastDate 87 = .ok (.irem, 1) := by decide +kernel
theorem d_AL_feastDate_88 : decode b_AL_feastDate 88 = .ok (.istore 10, 2) := by decide +kernel
theorem d_AL_feastDate_90 : decode b_AL_feastDate 90 = .ok (.bipush 32, 2) := by decide +kernel
theorem d_AL_feastDate_92 : decode b_AL_feastDate 92 = .ok (.iconst 2, 1) := by decide +kernel
theorem d_AL_feastDate_93 : decode b_AL_feastDate 93 = .ok (.iload 5, 2) := by decide +kernel
theorem d_AL_feastDate_95 : decode b_AL_feastDate 95 = .ok (.imul, 1) := by decide +kernel
theorem d_AL_feastDate_96 : decode b_AL_feastDate 96 = .ok (.iadd, 1) := by decide +kernel
theorem d_AL_feastDate_97 : decode b_AL_feastDate 97 = .ok (.iconst 2, 1) := by decide +kernel
theorem d_AL_feastDate_98 : decode b_AL_feastDate 98 = .ok (.iload 9, 2) := by decide +kernel
theorem d_AL_feastDate_100 : decode b_AL_feastDate 100 = .ok (.imul, 1) := by decide +kernel
theorem d_AL_feastDate_101 : decode b_AL_feastDate 101 = .ok (.iadd, 1) := by decide +kernel
theorem d_AL_feastDate_102 : decode b_AL_feastDate 102 = .ok (.iload 8, 2) := by decide +kernel
theorem d_AL_feastDate_104 : decode b_AL_feastDate 104 = .ok (.isub, 1) := by decide +kernel
theorem d_AL_feastDate_105 : decode b_AL_feastDate 105 = .ok (.iload 10, 2) := by decide +kernel
theorem d_AL_feastDate_107 : decode b_AL_feastDate 107 = .ok (.isub, 1) := by decide +kernel
theorem d_AL_feastDate_108 : decode b_AL_feastDate 108 = .ok (.bipush 7, 2) := by decide +kernel
theorem d_AL_feastDate_110 : decode b_AL_feastDate 110 = .ok (.irem, 1) := by decide +kernel
theorem d_AL_feastDate_111 : decode b_AL_feastDate 111 = .ok (.istore 11, 2) := by decide +kernel
theorem d_AL_feastDate_113 : decode b_AL_feastDate 113 = .ok (.iload_n 1, 1) := by decide +kernel
theorem d_AL_feastDate_114 : decode b_AL_feastDate 114 = .ok (.bipush 11, 2) := by decide +kernel
theorem d_AL_feastDate_116 : decode b_AL_feastDate 116 = .ok (.iload 8, 2) := by decide +kernel
theorem d_AL_feastDate_118 : decode b_AL_feastDate 118 = .ok (.imul, 1) := by decide +kernel
theorem d_AL_feastDate_119 : decode b_AL_feastDate 119 = .ok (.iadd, 1) := by decide +kernel
theorem d_AL_feastDate_120 : decode b_AL_feastDate 120 = .ok (.bipush 22, 2) := by decide +kernel
theorem d_AL_feastDate_122 : decode b_AL_feastDate 122 = .ok (.iload 11, 2) := by decide +kernel
theorem d_AL_feastDate_124 : decode b_AL_feastDate 124 = .ok (.imul, 1) := by decide +kernel
theorem d_AL_feastDate_125 : decode b_AL_feastDate 125 = .ok (.iadd, 1) := by decide +kernel
theorem d_AL_feastDate_126 : decode b_AL_feastDate 126 = .ok (.sipush 451, 3) := by decide +kernel
theorem d_AL_feastDate_129 : decode b_AL_feastDate 129 = .ok (.idiv, 1) := by decide +kernel
theorem d_AL_feastDate_130 : decode b_AL_feastDate 130 = .ok (.istore 12, 2) := by decide +kernel
theorem d_AL_feastDate_132 : decode b_AL_feastDate 132 = .ok (.iload 8, 2) := by decide +kernel
theorem d_AL_feastDate_134 : decode b_AL_feastDate 134 = .ok (.iload 11, 2) := by decide +kernel
theorem d_AL_feastDate_136 : decode b_AL_feastDate 136 = .ok (.iadd, 1) := by decide +kernel
theorem d_AL_feastDate_137 : decode b_AL_feastDate 137 = .ok (.bipush 7, 2) := by decide +kernel
theorem d_AL_feastDate_139 : decode b_AL_feastDate 139 = .ok (.iload 12, 2) := by decide +kernel
theorem d_AL_feastDate_141 : decode b_AL_feastDate 141 = .ok (.imul, 1) := by decide +kernel
theorem d_AL_feastDate_142 : decode b_AL_feastDate 142 = .ok (.isub, 1) := by decide +kernel
theorem d_AL_feastDate_143 : decode b_AL_feastDate 143 = .ok (.bipush 114, 2) := by decide +kernel
theorem d_AL_feastDate_145 : decode b_AL_feastDate 145 = .ok (.iadd, 1) := by decide +kernel
theorem d_AL_feastDate_146 : decode b_AL_feastDate 146 = .ok (.istore 13, 2) := by decide +kernel
theorem d_AL_feastDate_148 : decode b_AL_feastDate 148 = .ok (.bipush 100, 2) := by decide +kernel
theorem d_AL_feastDate_150 : decode b_AL_feastDate 150 = .ok (.iload 13, 2) := by decide +kernel
theorem d_AL_feastDate_152 : decode b_AL_feastDate 152 = .ok (.bipush 31, 2) := by decide +kernel
theorem d_AL_feastDate_154 : decode b_AL_feastDate 154 = .ok (.idiv, 1) := by decide +kernel
theorem d_AL_feastDate_155 : decode b_AL_feastDate 155 = .ok (.imul, 1) := by decide +kernel
theorem d_AL_feastDate_156 : decode b_AL_feastDate 156 = .ok (.iload 13, 2) := by decide +kernel
theorem d_AL_feastDate_158 : decode b_AL_feastDate 158 = .ok (.bipush 31, 2) := by decide +kernel
theorem d_AL_feastDate_160 : decode b_AL_feastDate 160 = .ok (.irem, 1) := by decide +kernel
theorem d_AL_feastDate_161 : decode b_AL_feastDate 161 = .ok (.iadd, 1) := by decide +kernel
theorem d_AL_feastDate_162 : decode b_AL_feastDate 162 = .ok (.iconst 1, 1) := by decide +kernel
theorem d_AL_feastDate_163 : decode b_AL_feastDate 163 = .ok (.iadd, 1) := by decide +kernel
theorem d_AL_feastDate_164 : decode b_AL_feastDate 164 = .ok (.ireturn, 1) := by decide +kernel
theorem d_RC_cellsBelow_0 : decode b_RC_cellsBelow 0 = .ok (.lconst 1, 1) := by decide +kernel
theorem d_RC_cellsBelow_1 : decode b_RC_cellsBelow 1 = .ok (.iload_n 0, 1) := by decide +kernel
theorem d_RC_cellsBelow_2 : decode b_RC_cellsBelow 2 = .ok (.lshl, 1) := by decide +kernel
theorem d_RC_cellsBelow_3 : decode b_RC_cellsBelow 3 = .ok (.lconst 1, 1) := by decide +kernel
theorem d_RC_cellsBelow_4 : decode b_RC_cellsBelow 4 = .ok (.lsub, 1) := by decide +kernel
theorem d_RC_cellsBelow_5 : decode b_RC_cellsBelow 5 = .ok (.lreturn, 1) := by decide +kernel
theorem d_RC_yearIndex_0 : decode b_RC_yearIndex 0 = .ok (.iload_n 0, 1) := by decide +kernel
theorem d_RC_yearIndex_1 : decode b_RC_yearIndex 1 = .ok (.sipush 366, 3) := by decide +kernel
theorem d_RC_yearIndex_4 : decode b_RC_yearIndex 4 = .ok (.if_icmp .ge 7, 3) := by decide +kernel
theorem d_RC_yearIndex_7 : decode b_RC_yearIndex 7 = .ok (.iconst 0, 1) := by decide +kernel
theorem d_RC_yearIndex_8 : decode b_RC_yearIndex 8 = .ok (.goto 10, 3) := by decide +kernel
theorem d_RC_yearIndex_11 : decode b_RC_yearIndex 11 = .ok (.iload_n 0, 1) := by decide +kernel
theorem d_RC_yearIndex_12 : decode b_RC_yearIndex 12 = .ok (.iconst 1, 1) := by decide +kernel
theorem d_RC_yearIndex_13 : decode b_RC_yearIndex 13 = .ok (.isub, 1) := by decide +kernel
theorem d_RC_yearIndex_14 : decode b_RC_yearIndex 14 = .ok (.sipush 365, 3) := by decide +kernel
theorem d_RC_yearIndex_17 : decode b_RC_yearIndex 17 = .ok (.idiv, 1) := by decide +kernel
theorem d_RC_yearIndex_18 : decode b_RC_yearIndex 18 = .ok (.ireturn, 1) := by decide +kernel
theorem d_SH_loses_0 : decode b_SH_loses 0 = .ok (.aload_n 0, 1) := by decide +kernel
theorem d_SH_loses_1 : decode b_SH_loses 1 = .ok (.getfield 24, 3) := by decide +kernel
theorem d_SH_loses_4 : decode b_SH_loses 4 = .ok (.ifCond .eq 20, 3) := by decide +kernel
theorem d_SH_loses_7 : decode b_SH_loses 7 = .ok (.aload_n 0, 1) := by decide +kernel
theorem d_SH_loses_8 : decode b_SH_loses 8 = .ok (.getfield 9, 3) := by decide +kernel
theorem d_SH_loses_11 : decode b_SH_loses 11 = .ok (.iload_n 1, 1) := by decide +kernel
theorem d_SH_loses_12 : decode b_SH_loses 12 = .ok (.invokestatic 28, 3) := by decide +kernel
theorem d_SH_loses_15 : decode b_SH_loses 15 = .ok (.iaload, 1) := by decide +kernel
theorem d_SH_loses_16 : decode b_SH_loses 16 = .ok (.iload_n 1, 1) := by decide +kernel
theorem d_SH_loses_17 : decode b_SH_loses 17 = .ok (.if_icmp .ne 7, 3) := by decide +kernel
theorem d_SH_loses_20 : decode b_SH_loses 20 = .ok (.iconst 1, 1) := by decide +kernel
theorem d_SH_loses_21 : decode b_SH_loses 21 = .ok (.goto 4, 3) := by decide +kernel
theorem d_SH_loses_24 : decode b_SH_loses 24 = .ok (.iconst 0, 1) := by decide +kernel
theorem d_SH_loses_25 : decode b_SH_loses 25 = .ok (.ireturn, 1) := by decide +kernel
theorem d_SH_doubles_0 : decode b_SH_doubles 0 = .ok (.aload_n 0, 1) := by decide +kernel
theorem d_SH_doubles_1 : decode b_SH_doubles 1 = .ok (.getfield 24, 3) := by decide +kernel
theorem d_SH_doubles_4 : decode b_SH_doubles 4 = .ok (.ifCond .eq 20, 3) := by decide +kernel
theorem d_SH_doubles_7 : decode b_SH_doubles 7 = .ok (.aload_n 0, 1) := by decide +kernel
theorem d_SH_doubles_8 : decode b_SH_doubles 8 = .ok (.getfield 15, 3) := by decide +kernel
theorem d_SH_doubles_11 : decode b_SH_doubles 11 = .ok (.iload_n 1, 1) := by decide +kernel
theorem d_SH_doubles_12 : decode b_SH_doubles 12 = .ok (.invokestatic 28, 3) := by decide +kernel
theorem d_SH_doubles_15 : decode b_SH_doubles 15 = .ok (.iaload, 1) := by decide +kernel
theorem d_SH_doubles_16 : decode b_SH_doubles 16 = .ok (.iload_n 1, 1) := by decide +kernel
theorem d_SH_doubles_17 : decode b_SH_doubles 17 = .ok (.if_icmp .ne 7, 3) := by decide +kernel
theorem d_SH_doubles_20 : decode b_SH_doubles 20 = .ok (.iconst 1, 1) := by decide +kernel
theorem d_SH_doubles_21 : decode b_SH_doubles 21 = .ok (.goto 4, 3) := by decide +kernel
theorem d_SH_doubles_24 : decode b_SH_doubles 24 = .ok (.iconst 0, 1) := by decide +kernel
theorem d_SH_doubles_25 : decode b_SH_doubles 25 = .ok (.ireturn, 1) := by decide +kernel
theorem d_SH_isShifted_0 : decode b_SH_isShifted 0 = .ok (.iload_n 1, 1) := by decide +kernel
theorem d_SH_isShifted_1 : decode b_SH_isShifted 1 = .ok (.iconst 4, 1) := by decide +kernel
theorem d_SH_isShifted_2 : decode b_SH_isShifted 2 = .ok (.if_icmp .lt 13, 3) := by decide +kernel
theorem d_SH_isShifted_5 : decode b_SH_isShifted 5 = .ok (.iload_n 1, 1) := by decide +kernel
theorem d_SH_isShifted_6 : decode b_SH_isShifted 6 = .ok (.bipush 6, 2) := by decide +kernel
theorem d_SH_isShifted_8 : decode b_SH_isShifted 8 = .ok (.if_icmp .ge 7, 3) := by decide +kernel
theorem d_SH_isShifted_11 : decode b_SH_isShifted 11 = .ok (.iconst 1, 1) := by decide +kernel
theorem d_SH_isShifted_12 : decode b_SH_isShifted 12 = .ok (.goto 4, 3) := by decide +kernel
theorem d_SH_isShifted_15 : decode b_SH_isShifted 15 = .ok (.iconst 0, 1) := by decide +kernel
theorem d_SH_isShifted_16 : decode b_SH_isShifted 16 = .ok (.ireturn, 1) := by decide +kernel
theorem d_SH_isLost_0 : decode b_SH_isLost 0 = .ok (.aload_n 0, 1) := by decide +kernel
theorem d_SH_isLost_1 : decode b_SH_isLost 1 = .ok (.iload_n 2, 1) := by decide +kernel
theorem d_SH_isLost_2 : decode b_SH_isLost 2 = .ok (.invokevirtual 32, 3) := by decide +kernel
theorem d_SH_isLost_5 : decode b_SH_isLost 5 = .ok (.ifCond .eq 15, 3) := by decide +kernel
theorem d_SH_isLost_8 : decode b_SH_isLost 8 = .ok (.aload_n 0, 1) := by decide +kernel
theorem d_SH_isLost_9 : decode b_SH_isLost 9 = .ok (.iload_n 1, 1) := by decide +kernel
theorem d_SH_isLost_10 : decode b_SH_isLost 10 = .ok (.invokevirtual 36, 3) := by decide +kernel
theorem d_SH_isLost_13 : decode b_SH_isLost 13 = .ok (.ifCond .eq 7, 3) := by decide +kernel
theorem d_SH_isLost_16 : decode b_SH_isLost 16 = .ok (.iconst 1, 1) := by decide +kernel
theorem d_SH_isLost_17 : decode b_SH_isLost 17 = .ok (.goto 4, 3) := by decide +kernel
theorem d_SH_isLost_20 : decode b_SH_isLost 20 = .ok (.iconst 0, 1) := by decide +kernel
theorem d_SH_isLost_21 : decode b_SH_isLost 21 = .ok (.ireturn, 1) := by decide +kernel
theorem d_SH_cellsOf_0 : decode b_SH_cellsOf 0 = .ok (.aload_n 0, 1) := by decide +kernel
theorem d_SH_cellsOf_1 : decode b_SH_cellsOf 1 = .ok (.iload_n 1, 1) := by decide +kernel
theorem d_SH_cellsOf_2 : decode b_SH_cellsOf 2 = .ok (.invokevirtual 36, 3) := by decide +kernel
theorem d_SH_cellsOf_5 : decode b_SH_cellsOf 5 = .ok (.ifCond .eq 9, 3) := by decide +kernel
theorem d_SH_cellsOf_8 : decode b_SH_cellsOf 8 = .ok (.ldc2_w 39, 3) := by decide +kernel
theorem d_SH_cellsOf_11 : decode b_SH_cellsOf 11 = .ok (.goto 6, 3) := by decide +kernel
theorem d_SH_cellsOf_14 : decode b_SH_cellsOf 14 = .ok (.ldc2_w 41, 3) := by decide +kernel
theorem d_SH_cellsOf_17 : decode b_SH_cellsOf 17 = .ok (.lreturn, 1) := by decide +kernel
theorem d_SH_cellsBehind_0 : decode b_SH_cellsBehind 0 = .ok (.aload_n 0, 1) := by decide +kernel
theorem d_SH_cellsBehind_1 : decode b_SH_cellsBehind 1 = .ok (.iload_n 1, 1) := by decide +kernel
theorem d_SH_cellsBehind_2 : decode b_SH_cellsBehind 2 = .ok (.invokevirtual 43, 3) := by decide +kernel
theorem d_SH_cellsBehind_5 : decode b_SH_cellsBehind 5 = .ok (.iload_n 2, 1) := by decide +kernel
theorem d_SH_cellsBehind_6 : decode b_SH_cellsBehind 6 = .ok (.iconst 1, 1) := by decide +kernel
theorem d_SH_cellsBehind_7 : decode b_SH_cellsBehind 7 = .ok (.iadd, 1) := by decide +kernel
theorem d_SH_cellsBehind_8 : decode b_SH_cellsBehind 8 = .ok (.invokestatic 47, 3) := by decide +kernel
theorem d_SH_cellsBehind_11 : decode b_SH_cellsBehind 11 = .ok (.ldc2_w 50, 3) := by decide +kernel
theorem d_SH_cellsBehind_14 : decode b_SH_cellsBehind 14 = .ok (.lxor, 1) := by decide +kernel
theorem d_SH_cellsBehind_15 : decode b_SH_cellsBehind 15 = .ok (.land, 1) := by decide +kernel
theorem d_SH_cellsBehind_16 : decode b_SH_cellsBehind 16 = .ok (.lstore_n 3, 1) := by decide +kernel
theorem d_SH_cellsBehind_17 : decode b_SH_cellsBehind 17 = .ok (.aload_n 0, 1) := by decide +kernel
theorem d_SH_cellsBehind_18 : decode b_SH_cellsBehind 18 = .ok (.iload_n 2, 1) := by decide +kernel
theorem d_SH_cellsBehind_19 : decode b_SH_cellsBehind 19 = .ok (.invokevirtual 32, 3) := by decide +kernel
theorem d_SH_cellsBehind_22 : decode b_SH_cellsBehind 22 = .ok (.ifCond .eq 27, 3) := by decide +kernel
theorem d_SH_cellsBehind_25 : decode b_SH_cellsBehind 25 = .ok (.aload_n 0, 1) := by decide +kernel
theorem d_SH_cellsBehind_26 : decode b_SH_cellsBehind 26 = .ok (.iload_n 1, 1) := by decide +kernel
theorem d_SH_cellsBehind_27 : decode b_SH_cellsBehind 27 = .ok (.invokevirtual 52, 3) := by decide +kernel
theorem d_SH_cellsBehind_30 : decode b_SH_cellsBehind 30 = .ok (.ifCond .eq 19, 3) := by decide +kernel
theorem d_SH_cellsBehind_33 : decode b_SH_cellsBehind 33 = .ok (.lload_n 3, 1) := by decide +kernel
theorem d_SH_cellsBehind_34 : decode b_SH_cellsBehind 34 = .ok (.ldc2_w 55, 3) := by decide +kernel
theorem d_SH_cellsBehind_37 : decode b_SH_cellsBehind 37 = .ok (.lconst 1, 1) := by decide +kernel
theorem d_SH_cellsBehind_38 : decode b_SH_cellsBehind 38 = .ok (.iload_n 2, 1) := by decide +kernel
theorem d_SH_cellsBehind_39 : decode b_SH_cellsBehind 39 = .ok (.lshl, 1) := by decide +kernel
theorem d_SH_cellsBehind_40 : decode b_SH_cellsBehind 40 = .ok (.ldc2_w 50, 3) := by decide +kernel
theorem d_SH_cellsBehind_43 : decode b_SH_cellsBehind 43 = .ok (.lxor, 1) := by decide +kernel
theorem d_SH_cellsBehind_44 : decode b_SH_cellsBehind 44 = .ok (.land, 1) := by decide +kernel
theorem d_SH_cellsBehind_45 : decode b_SH_cellsBehind 45 = .ok (.lor, 1) := by decide +kernel
theorem d_SH_cellsBehind_46 : decode b_SH_cellsBehind 46 = .ok (.goto 4, 3) := by decide +kernel
theorem d_SH_cellsBehind_49 : decode b_SH_cellsBehind 49 = .ok (.lload_n 3, 1) := by decide +kernel
theorem d_SH_cellsBehind_50 : decode b_SH_cellsBehind 50 = .ok (.lreturn, 1) := by decide +kernel
theorem d_SH_startOf_0 : decode b_SH_startOf 0 = .ok (.iload_n 1, 1) := by decide +kernel
theorem d_SH_startOf_1 : decode b_SH_startOf 1 = .ok (.invokestatic 28, 3) := by decide +kernel
theorem d_SH_startOf_4 : decode b_SH_startOf 4 = .ok (.istore_n 2, 1) := by decide +kernel
theorem d_SH_startOf_5 : decode b_SH_startOf 5 = .ok (.aload_n 0, 1) := by decide +kernel
theorem d_SH_startOf_6 : decode b_SH_startOf 6 = .ok (.getfield 24, 3) := by decide +kernel
theorem d_SH_startOf_9 : decode b_SH_startOf 9 = .ok (.ifCond .eq 27, 3) := by decide +kernel
theorem d_SH_startOf_12 : decode b_SH_startOf 12 = .ok (.iload_n 1, 1) := by decide +kernel
theorem d_SH_startOf_13 : decode b_SH_startOf 13 = .ok (.aload_n 0, 1) := by decide +kernel
theorem d_SH_startOf_14 : decode b_SH_startOf 14 = .ok (.getfield 9, 3) := by decide +kernel
theorem d_SH_startOf_17 : decode b_SH_startOf 17 = .ok (.iload_n 2, 1) := by decide +kernel
theorem d_SH_startOf_18 : decode b_SH_startOf 18 = .ok (.iaload, 1) := by decide +kernel
theorem d_SH_startOf_19 : decode b_SH_startOf 19 = .ok (.if_icmp .le 17, 3) := by decide +kernel
theorem d_SH_startOf_22 : decode b_SH_startOf 22 = .ok (.iload_n 1, 1) := by decide +kernel
theorem d_SH_startOf_23 : decode b_SH_startOf 23 = .ok (.aload_n 0, 1) := by decide +kernel
theorem d_SH_startOf_24 : decode b_SH_startOf 24 = .ok (.getfield 15, 3) := by decide +kernel
theorem d_SH_startOf_27 : decode b_SH_startOf 27 = .ok (.iload_n 2, 1) := by decide +kernel
theorem d_SH_startOf_28 : decode b_SH_startOf 28 = .ok (.iaload, 1) := by decide +kernel
theorem d_SH_startOf_29 : decode b_SH_startOf 29 = .ok (.if_icmp .gt 7, 3) := by decide +kernel
theorem d_SH_startOf_32 : decode b_SH_startOf 32 = .ok (.iconst 1, 1) := by decide +kernel
theorem d_SH_startOf_33 : decode b_SH_startOf 33 = .ok (.goto 4, 3) := by decide +kernel
theorem d_SH_startOf_36 : decode b_SH_startOf 36 = .ok (.iconst 0, 1) := by decide +kernel
theorem d_SH_startOf_37 : decode b_SH_startOf 37 = .ok (.istore_n 3, 1) := by decide +kernel
theorem d_SH_startOf_38 : decode b_SH_startOf 38 = .ok (.bipush 48, 2) := by decide +kernel
theorem d_SH_startOf_40 : decode b_SH_startOf 40 = .ok (.iload_n 1, 1) := by decide +kernel
theorem d_SH_startOf_41 : decode b_SH_startOf 41 = .ok (.imul, 1) := by decide +kernel
theorem d_SH_startOf_42 : decode b_SH_startOf 42 = .ok (.iload_n 3, 1) := by decide +kernel
theorem d_SH_startOf_43 : decode b_SH_startOf 43 = .ok (.ifCond .eq 7, 3) := by decide +kernel
theorem d_SH_startOf_46 : decode b_SH_startOf 46 = .ok (.iconst 2, 1) := by decide +kernel
theorem d_SH_startOf_47 : decode b_SH_startOf 47 = .ok (.goto 4, 3) := by decide +kernel
theorem d_SH_startOf_50 : decode b_SH_startOf 50 = .ok (.iconst 0, 1) := by decide +kernel
theorem d_SH_startOf_51 : decode b_SH_startOf 51 = .ok (.isub, 1) := by decide +kernel
theorem d_SH_startOf_52 : decode b_SH_startOf 52 = .ok (.ireturn, 1) := by decide +kernel
theorem d_SH_timeOf_0 : decode b_SH_timeOf 0 = .ok (.aload_n 0, 1) := by decide +kernel
theorem d_SH_timeOf_1 : decode b_SH_timeOf 1 = .ok (.iload_n 1, 1) := by decide +kernel
theorem d_SH_timeOf_2 : decode b_SH_timeOf 2 = .ok (.invokevirtual 63, 3) := by decide +kernel
theorem d_SH_timeOf_5 : decode b_SH_timeOf 5 = .ok (.iload_n 2, 1) := by decide +kernel
theorem d_SH_timeOf_6 : decode b_SH_timeOf 6 = .ok (.iadd, 1) := by decide +kernel
theorem d_SH_timeOf_7 : decode b_SH_timeOf 7 = .ok (.istore 4, 2) := by decide +kernel
theorem d_SH_timeOf_9 : decode b_SH_timeOf 9 = .ok (.iload_n 2, 1) := by decide +kernel
theorem d_SH_timeOf_10 : decode b_SH_timeOf 10 = .ok (.bipush 6, 2) := by decide +kernel
theorem d_SH_timeOf_12 : decode b_SH_timeOf 12 = .ok (.if_icmp .lt 16, 3) := by decide +kernel
theorem d_SH_timeOf_15 : decode b_SH_timeOf 15 = .ok (.aload_n 0, 1) := by decide +kernel
theorem d_SH_timeOf_16 : decode b_SH_timeOf 16 = .ok (.iload_n 1, 1) := by decide +kernel
theorem d_SH_timeOf_17 : decode b_SH_timeOf 17 = .ok (.invokevirtual 36, 3) := by decide +kernel
theorem d_SH_timeOf_20 : decode b_SH_timeOf 20 = .ok (.ifCond .eq 8, 3) := by decide +kernel
theorem d_SH_timeOf_23 : decode b_SH_timeOf 23 = .ok (.iload 4, 2) := by decide +kernel
theorem d_SH_timeOf_25 : decode b_SH_timeOf 25 = .ok (.iconst 2, 1) := by decide +kernel
theorem d_SH_timeOf_26 : decode b_SH_timeOf 26 = .ok (.isub, 1) := by decide +kernel
theorem d_SH_timeOf_27 : decode b_SH_timeOf 27 = .ok (.ireturn, 1) := by decide +kernel
theorem d_SH_timeOf_28 : decode b_SH_timeOf 28 = .ok (.iload_n 2, 1) := by decide +kernel
theorem d_SH_timeOf_29 : decode b_SH_timeOf 29 = .ok (.bipush 6, 2) := by decide +kernel
theorem d_SH_timeOf_31 : decode b_SH_timeOf 31 = .ok (.if_icmp .ge 15, 3) := by decide +kernel
theorem d_SH_timeOf_34 : decode b_SH_timeOf 34 = .ok (.iload_n 3, 1) := by decide +kernel
theorem d_SH_timeOf_35 : decode b_SH_timeOf 35 = .ok (.ifCond .eq 15, 3) := by decide +kernel
theorem d_SH_timeOf_38 : decode b_SH_timeOf 38 = .ok (.aload_n 0, 1) := by decide +kernel
theorem d_SH_timeOf_39 : decode b_SH_timeOf 39 = .ok (.iload_n 2, 1) := by decide +kernel
theorem d_SH_timeOf_40 : decode b_SH_timeOf 40 = .ok (.invokevirtual 32, 3) := by decide +kernel
theorem d_SH_timeOf_43 : decode b_SH_timeOf 43 = .ok (.ifCond .eq 7, 3) := by decide +kernel
theorem d_SH_timeOf_46 : decode b_SH_timeOf 46 = .ok (.iconst 1, 1) := by decide +kernel
theorem d_SH_timeOf_47 : decode b_SH_timeOf 47 = .ok (.goto 4, 3) := by decide +kernel
theorem d_SH_timeOf_50 : decode b_SH_timeOf 50 = .ok (.iconst 0, 1) := by decide +kernel
theorem d_SH_timeOf_51 : decode b_SH_timeOf 51 = .ok (.istore 5, 2) := by decide +kernel
theorem d_SH_timeOf_53 : decode b_SH_timeOf 53 = .ok (.iload 5, 2) := by decide +kernel
theorem d_SH_timeOf_55 : decode b_SH_timeOf 55 = .ok (.ifCond .eq 18, 3) := by decide +kernel
theorem d_SH_timeOf_58 : decode b_SH_timeOf 58 = .ok (.aload_n 0, 1) := by decide +kernel
theorem d_SH_timeOf_59 : decode b_SH_timeOf 59 = .ok (.iload_n 1, 1) := by decide +kernel
theorem d_SH_timeOf_60 : decode b_SH_timeOf 60 = .ok (.invokevirtual 52, 3) := by decide +kernel
theorem d_SH_timeOf_63 : decode b_SH_timeOf 63 = .ok (.ifCond .eq 10, 3) := by decide +kernel
theorem d_SH_timeOf_66 : decode b_SH_timeOf 66 = .ok (.iload 4, 2) := by decide +kernel
theorem d_SH_timeOf_68 : decode b_SH_timeOf 68 = .ok (.iconst 2, 1) := by decide +kernel
theorem d_SH_timeOf_69 : decode b_SH_timeOf 69 = .ok (.iadd, 1) := by decide +kernel
theorem d_SH_timeOf_70 : decode b_SH_timeOf 70 = .ok (.goto 5, 3) := by decide +kernel
theorem d_SH_timeOf_73 : decode b_SH_timeOf 73 = .ok (.iload 4, 2) := by decide +kernel
theorem d_SH_timeOf_75 : decode b_SH_timeOf 75 = .ok (.ireturn, 1) := by decide +kernel
