theorem d_AT_init_0 : decode b_AT_init 0 = .ok (.aload_n 0, 1) := by decide +kernel
theorem d_AT_init_1 : decode b_AT_init 1 = .ok (.invokespecial 3, 3) := by decide +kernel
theorem d_AT_init_4 : decode b_AT_init 4 = .ok (.aload_n 0, 1) := by decide +kernel
theorem d_AT_init_5 : decode b_AT_init 5 = .ok (.aload_n 1, 1) := by decide +kernel
theorem d_AT_init_6 : decode b_AT_init 6 = .ok (.putfield 9, 3) := by decide +kernel
theorem d_AT_init_9 : decode b_AT_init 9 = .ok (.return_, 1) := by decide +kernel
theorem d_CN_init_0 : decode b_CN_init 0 = .ok (.aload_n 0, 1) := by decide +kernel
theorem d_CN_init_1 : decode b_CN_init 1 = .ok (.invokespecial 3, 3) := by decide +kernel
theorem d_CN_init_4 : decode b_CN_init 4 = .ok (.aload_n 0, 1) := by decide +kernel
theorem d_CN_init_5 : decode b_CN_init 5 = .ok (.iconst 4, 1) := by decide +kernel
theorem d_CN_init_6 : decode b_CN_init 6 = .ok (.sipush 1461, 3) := by decide +kernel
theorem d_CN_init_9 : decode b_CN_init 9 = .ok (.multianewarray 11 2, 4) := by decide +kernel
theorem d_CN_init_13 : decode b_CN_init 13 = .ok (.putfield 13, 3) := by decide +kernel
theorem d_CN_init_16 : decode b_CN_init 16 = .ok (.return_, 1) := by decide +kernel
theorem d_DS_init_0 : decode b_DS_init 0 = .ok (.aload_n 0, 1) := by decide +kernel
theorem d_DS_init_1 : decode b_DS_init 1 = .ok (.invokespecial 3, 3) := by decide +kernel
theorem d_DS_init_4 : decode b_DS_init 4 = .ok (.aload_n 0, 1) := by decide +kernel
theorem d_DS_init_5 : decode b_DS_init 5 = .ok (.bipush 23, 2) := by decide +kernel
theorem d_DS_init_7 : decode b_DS_init 7 = .ok (.newarray .long, 2) := by decide +kernel
theorem d_DS_init_9 : decode b_DS_init 9 = .ok (.putfield 9, 3) := by decide +kernel
theorem d_DS_init_12 : decode b_DS_init 12 = .ok (.return_, 1) := by decide +kernel
theorem d_PL_init_0 : decode b_PL_init 0 = .ok (.aload_n 0, 1) := by decide +kernel
theorem d_PL_init_1 : decode b_PL_init 1 = .ok (.invokespecial 3, 3) := by decide +kernel
theorem d_PL_init_4 : decode b_PL_init 4 = .ok (.aload_n 0, 1) := by decide +kernel
theorem d_PL_init_5 : decode b_PL_init 5 = .ok (.new 9, 3) := by decide +kernel
theorem d_PL_init_8 : decode b_PL_init 8 = .ok (.dup, 1) := by decide +kernel
theorem d_PL_init_9 : decode b_PL_init 9 = .ok (.invokespecial 11, 3) := by decide +kernel
theorem d_PL_init_12 : decode b_PL_init 12 = .ok (.putfield 12, 3) := by decide +kernel
theorem d_PL_init_15 : decode b_PL_init 15 = .ok (.aload_n 0, 1) := by decide +kernel
theorem d_PL_init_16 : decode b_PL_init 16 = .ok (.new 9, 3) := by decide +kernel
theorem d_PL_init_19 : decode b_PL_init 19 = .ok (.dup, 1) := by decide +kernel
theorem d_PL_init_20 : decode b_PL_init 20 = .ok (.invokespecial 11, 3) := by decide +kernel
theorem d_PL_init_23 : decode b_PL_init 23 = .ok (.putfield 18, 3) := by decide +kernel
theorem d_PL_init_26 : decode b_PL_init 26 = .ok (.return_, 1) := by decide +kernel
