theorem d_AL_monthLength_0 : decode b_AL_monthLength 0 = .ok (.iload_n 1, 1) := by decide +kernel
theorem d_AL_monthLength_1 : decode b_AL_monthLength 1 = .ok (.iconst 1, 1) := by decide +kernel
theorem d_AL_monthLength_2 : decode b_AL_monthLength 2 = .ok (.if_icmp .lt 9, 3) := by decide +kernel
theorem d_AL_monthLength_5 : decode b_AL_monthLength 5 = .ok (.iload_n 1, 1) := by decide +kernel
theorem d_AL_monthLength_6 : decode b_AL_monthLength 6 = .ok (.bipush 12, 2) := by decide +kernel
theorem d_AL_monthLength_8 : decode b_AL_monthLength 8 = .ok (.if_icmp .le 5, 3) := by decide +kernel
theorem d_AL_monthLength_11 : decode b_AL_monthLength 11 = .ok (.iconst 0, 1) := by decide +kernel
theorem d_AL_monthLength_12 : decode b_AL_monthLength 12 = .ok (.ireturn, 1) := by decide +kernel
theorem d_AL_monthLength_13 : decode b_AL_monthLength 13 = .ok (.iload_n 1, 1) := by decide +kernel
theorem d_AL_monthLength_14 : decode b_AL_monthLength 14 = .ok (.iconst 2, 1) := by decide +kernel
theorem d_AL_monthLength_15 : decode b_AL_monthLength 15 = .ok (.if_icmp .ne 15, 3) := by decide +kernel
theorem d_AL_monthLength_18 : decode b_AL_monthLength 18 = .ok (.iload_n 0, 1) := by decide +kernel
theorem d_AL_monthLength_19 : decode b_AL_monthLength 19 = .ok (.sipush 2000, 3) := by decide +kernel
theorem d_AL_monthLength_22 : decode b_AL_monthLength 22 = .ok (.if_icmp .eq 8, 3) := by decide +kernel
theorem d_AL_monthLength_25 : decode b_AL_monthLength 25 = .ok (.bipush 28, 2) := by decide +kernel
theorem d_AL_monthLength_27 : decode b_AL_monthLength 27 = .ok (.goto 8, 3) := by decide +kernel
theorem d_AL_monthLength_30 : decode b_AL_monthLength 30 = .ok (.getstatic 33, 3) := by decide +kernel
theorem d_AL_monthLength_33 : decode b_AL_monthLength 33 = .ok (.iload_n 1, 1) := by decide +kernel
theorem d_AL_monthLength_34 : decode b_AL_monthLength 34 = .ok (.iaload, 1) := by decide +kernel
theorem d_AL_monthLength_35 : decode b_AL_monthLength 35 = .ok (.ireturn, 1) := by decide +kernel
theorem d_AL_weekday_0 : decode b_AL_weekday 0 = .ok (.iload_n 0, 1) := by decide +kernel
theorem d_AL_weekday_1 : decode b_AL_weekday 1 = .ok (.iconst 5, 1) := by decide +kernel
theorem d_AL_weekday_2 : decode b_AL_weekday 2 = .ok (.iadd, 1) := by decide +kernel
theorem d_AL_weekday_3 : decode b_AL_weekday 3 = .ok (.bipush 7, 2) := by decide +kernel
theorem d_AL_weekday_5 : decode b_AL_weekday 5 = .ok (.irem, 1) := by decide +kernel
theorem d_AL_weekday_6 : decode b_AL_weekday 6 = .ok (.iconst 1, 1) := by decide +kernel
theorem d_AL_weekday_7 : decode b_AL_weekday 7 = .ok (.iadd, 1) := by decide +kernel
theorem d_AL_weekday_8 : decode b_AL_weekday 8 = .ok (.ireturn, 1) := by decide +kernel
theorem d_AL_firstDay_0 : decode b_AL_firstDay 0 = .ok (.sipush 365, 3) := by decide +kernel
theorem d_AL_firstDay_3 : decode b_AL_firstDay 3 = .ok (.iload_n 0, 1) := by decide +kernel
theorem d_AL_firstDay_4 : decode b_AL_firstDay 4 = .ok (.sipush 2000, 3) := by decide +kernel
theorem d_AL_firstDay_7 : decode b_AL_firstDay 7 = .ok (.isub, 1) := by decide +kernel
theorem d_AL_firstDay_8 : decode b_AL_firstDay 8 = .ok (.imul, 1) := by decide +kernel
theorem d_AL_firstDay_9 : decode b_AL_firstDay 9 = .ok (.iload_n 0, 1) := by decide +kernel
theorem d_AL_firstDay_10 : decode b_AL_firstDay 10 = .ok (.sipush 2000, 3) := by decide +kernel
theorem d_AL_firstDay_13 : decode b_AL_firstDay 13 = .ok (.if_icmp .le 7, 3) := by decide +kernel
theorem d_AL_firstDay_16 : decode b_AL_firstDay 16 = .ok (.iconst 1, 1) := by decide +kernel
theorem d_AL_firstDay_17 : decode b_AL_firstDay 17 = .ok (.goto 4, 3) := by decide +kernel
theorem d_AL_firstDay_20 : decode b_AL_firstDay 20 = .ok (.iconst 0, 1) := by decide +kernel
theorem d_AL_firstDay_21 : decode b_AL_firstDay 21 = .ok (.iadd, 1) := by decide +kernel
theorem d_AL_firstDay_22 : decode b_AL_firstDay 22 = .ok (.ireturn, 1) := by decide +kernel
theorem d_RC_yearIndex_0 : decode b_RC_yearIndex 0 = .ok (.iload_n 0, 1) := by decide +kernel
theorem d_RC_yearIndex_1 : decode b_RC_yearIndex 1 = .ok (.sipush 366, 3) := by decide +kernel
theorem d_RC_yearIndex_4 : decode b_RC_yearIndex 4 = .ok (.if_icmp .ge 7, 3) := by decide +kernel
theorem d_RC_yearIndex_7 : decode b_RC_yearIndex 7 = .ok (.iconst 0, 1) := by decide +kernel
theorem d_RC_yearIndex_8 : decode b_RC_yearIndex 8 = .ok (.goto 10, 3) := by decide +kernel
theorem d_RC_yearIndex_11 : decode b_RC_yearIndex 11 = .ok (.iload_n 0, 1) := by decide +kernel
theorem d_RC_yearIndex_12 : decode b_RC_yearIndex 12 = .ok (.iconst 1, 1) := by decide +kernel
theorem d_RC_yearIndex_13 : decode b_RC_yearIndex 13 = .ok (.isub, 1) := by decide +kernel
theorem d_RC_yearIndex_14 : decode b_RC_yearIndex 14 = .ok (.sipush 365, 3) := by decide +kernel
theorem d_RC_yearIndex_17 : decode b_RC_yearIndex 17 = .ok (.idiv, 1) := by decide +kernel
theorem d_RC_yearIndex_18 : decode b_RC_yearIndex 18 = .ok (.ireturn, 1) := by decide +kernel
