theorem d_RR_openMatcher_0 : decode b_RR_openMatcher 0 = .ok (.aload_n 0, 1) := by decide +kernel
theorem d_RR_openMatcher_1 : decode b_RR_openMatcher 1 = .ok (.getfield 18, 3) := by decide +kernel
theorem d_RR_openMatcher_4 : decode b_RR_openMatcher 4 = .ok (.iload_n 1, 1) := by decide +kernel
theorem d_RR_openMatcher_5 : decode b_RR_openMatcher 5 = .ok (.aaload, 1) := by decide +kernel
theorem d_RR_openMatcher_6 : decode b_RR_openMatcher 6 = .ok (.invokevirtual 115, 3) := by decide +kernel
theorem d_RR_openMatcher_9 : decode b_RR_openMatcher 9 = .ok (.aload_n 0, 1) := by decide +kernel
theorem d_RR_openMatcher_10 : decode b_RR_openMatcher 10 = .ok (.getfield 22, 3) := by decide +kernel
theorem d_RR_openMatcher_13 : decode b_RR_openMatcher 13 = .ok (.iload_n 1, 1) := by decide +kernel
theorem d_RR_openMatcher_14 : decode b_RR_openMatcher 14 = .ok (.aaload, 1) := by decide +kernel
theorem d_RR_openMatcher_15 : decode b_RR_openMatcher 15 = .ok (.invokevirtual 76, 3) := by decide +kernel
theorem d_RR_openMatcher_18 : decode b_RR_openMatcher 18 = .ok (.return_, 1) := by decide +kernel
theorem d_RR_closeAll_0 : decode b_RR_closeAll 0 = .ok (.aload_n 0, 1) := by decide +kernel
theorem d_RR_closeAll_1 : decode b_RR_closeAll 1 = .ok (.getfield 18, 3) := by decide +kernel
theorem d_RR_closeAll_4 : decode b_RR_closeAll 4 = .ok (.iload_n 1, 1) := by decide +kernel
theorem d_RR_closeAll_5 : decode b_RR_closeAll 5 = .ok (.aaload, 1) := by decide +kernel
theorem d_RR_closeAll_6 : decode b_RR_closeAll 6 = .ok (.aload_n 0, 1) := by decide +kernel
theorem d_RR_closeAll_7 : decode b_RR_closeAll 7 = .ok (.getfield 22, 3) := by decide +kernel
theorem d_RR_closeAll_10 : decode b_RR_closeAll 10 = .ok (.iload_n 1, 1) := by decide +kernel
theorem d_RR_closeAll_11 : decode b_RR_closeAll 11 = .ok (.aaload, 1) := by decide +kernel
theorem d_RR_closeAll_12 : decode b_RR_closeAll 12 = .ok (.invokevirtual 116, 3) := by decide +kernel
theorem d_RR_closeAll_15 : decode b_RR_closeAll 15 = .ok (.aload_n 0, 1) := by decide +kernel
theorem d_RR_closeAll_16 : decode b_RR_closeAll 16 = .ok (.getfield 22, 3) := by decide +kernel
theorem d_RR_closeAll_19 : decode b_RR_closeAll 19 = .ok (.iload_n 1, 1) := by decide +kernel
theorem d_RR_closeAll_20 : decode b_RR_closeAll 20 = .ok (.aaload, 1) := by decide +kernel
theorem d_RR_closeAll_21 : decode b_RR_closeAll 21 = .ok (.invokevirtual 76, 3) := by decide +kernel
theorem d_RR_closeAll_24 : decode b_RR_closeAll 24 = .ok (.return_, 1) := by decide +kernel
theorem d_RR_closeMatchers_0 : decode b_RR_closeMatchers 0 = .ok (.iload_n 1, 1) := by decide +kernel
theorem d_RR_closeMatchers_1 : decode b_RR_closeMatchers 1 = .ok (.istore_n 2, 1) := by decide +kernel
theorem d_RR_closeMatchers_2 : decode b_RR_closeMatchers 2 = .ok (.iload_n 2, 1) := by decide +kernel
theorem d_RR_closeMatchers_3 : decode b_RR_closeMatchers 3 = .ok (.ifCond .le 46, 3) := by decide +kernel
theorem d_RR_closeMatchers_6 : decode b_RR_closeMatchers 6 = .ok (.aload_n 0, 1) := by decide +kernel
theorem d_RR_closeMatchers_7 : decode b_RR_closeMatchers 7 = .ok (.bipush 41, 2) := by decide +kernel
theorem d_RR_closeMatchers_9 : decode b_RR_closeMatchers 9 = .ok (.invokevirtual 58, 3) := by decide +kernel
theorem d_RR_closeMatchers_12 : decode b_RR_closeMatchers 12 = .ok (.ifCond .eq 37, 3) := by decide +kernel
theorem d_RR_closeMatchers_15 : decode b_RR_closeMatchers 15 = .ok (.aload_n 0, 1) := by decide +kernel
theorem d_RR_closeMatchers_16 : decode b_RR_closeMatchers 16 = .ok (.iload_n 2, 1) := by decide +kernel
theorem d_RR_closeMatchers_17 : decode b_RR_closeMatchers 17 = .ok (.invokevirtual 112, 3) := by decide +kernel
theorem d_RR_closeMatchers_20 : decode b_RR_closeMatchers 20 = .ok (.aload_n 0, 1) := by decide +kernel
theorem d_RR_closeMatchers_21 : decode b_RR_closeMatchers 21 = .ok (.getfield 22, 3) := by decide +kernel
theorem d_RR_closeMatchers_24 : decode b_RR_closeMatchers 24 = .ok (.iload_n 2, 1) := by decide +kernel
theorem d_RR_closeMatchers_25 : decode b_RR_closeMatchers 25 = .ok (.iconst 1, 1) := by decide +kernel
theorem d_RR_closeMatchers_26 : decode b_RR_closeMatchers 26 = .ok (.isub, 1) := by decide +kernel
theorem d_RR_closeMatchers_27 : decode b_RR_closeMatchers 27 = .ok (.aaload, 1) := by decide +kernel
theorem d_RR_closeMatchers_28 : decode b_RR_closeMatchers 28 = .ok (.aload_n 0, 1) := by decide +kernel
theorem d_RR_closeMatchers_29 : decode b_RR_closeMatchers 29 = .ok (.getfield 18, 3) := by decide +kernel
theorem d_RR_closeMatchers_32 : decode b_RR_closeMatchers 32 = .ok (.iload_n 2, 1) := by decide +kernel
theorem d_RR_closeMatchers_33 : decode b_RR_closeMatchers 33 = .ok (.aaload, 1) := by decide +kernel
theorem d_RR_closeMatchers_34 : decode b_RR_closeMatchers 34 = .ok (.aload_n 0, 1) := by decide +kernel
theorem d_RR_closeMatchers_35 : decode b_RR_closeMatchers 35 = .ok (.getfield 25, 3) := by decide +kernel
theorem d_RR_closeMatchers_38 : decode b_RR_closeMatchers 38 = .ok (.iload_n 2, 1) := by decide +kernel
theorem d_RR_closeMatchers_39 : decode b_RR_closeMatchers 39 = .ok (.baload, 1) := by decide +kernel
theorem d_RR_closeMatchers_40 : decode b_RR_closeMatchers 40 = .ok (.invokevirtual 104, 3) := by decide +kernel
theorem d_RR_closeMatchers_43 : decode b_RR_closeMatchers 43 = .ok (.iinc 2 (-1), 3) := by decide +kernel
theorem d_RR_closeMatchers_46 : decode b_RR_closeMatchers 46 = .ok (.goto (-44), 3) := by decide +kernel
theorem d_RR_closeMatchers_49 : decode b_RR_closeMatchers 49 = .ok (.iload_n 2, 1) := by decide +kernel
theorem d_RR_closeMatchers_50 : decode b_RR_closeMatchers 50 = .ok (.ireturn, 1) := by decide +kernel
