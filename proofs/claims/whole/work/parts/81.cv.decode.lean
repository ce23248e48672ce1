theorem d_RC_init_0 : decode b_RC_init 0 = .ok (.aload_n 0, 1) := by decide +kernel
theorem d_RC_init_1 : decode b_RC_init 1 = .ok (.invokespecial 3, 3) := by decide +kernel
theorem d_RC_init_4 : decode b_RC_init 4 = .ok (.aload_n 0, 1) := by decide +kernel
theorem d_RC_init_5 : decode b_RC_init 5 = .ok (.bipush 100, 2) := by decide +kernel
theorem d_RC_init_7 : decode b_RC_init 7 = .ok (.newarray .char, 2) := by decide +kernel
theorem d_RC_init_9 : decode b_RC_init 9 = .ok (.putfield 9, 3) := by decide +kernel
theorem d_RC_init_12 : decode b_RC_init 12 = .ok (.aload_n 0, 1) := by decide +kernel
theorem d_RC_init_13 : decode b_RC_init 13 = .ok (.new 13, 3) := by decide +kernel
theorem d_RC_init_16 : decode b_RC_init 16 = .ok (.dup, 1) := by decide +kernel
theorem d_RC_init_17 : decode b_RC_init 17 = .ok (.invokespecial 15, 3) := by decide +kernel
theorem d_RC_init_20 : decode b_RC_init 20 = .ok (.putfield 16, 3) := by decide +kernel
theorem d_RC_init_23 : decode b_RC_init 23 = .ok (.aload_n 0, 1) := by decide +kernel
theorem d_RC_init_24 : decode b_RC_init 24 = .ok (.new 20, 3) := by decide +kernel
theorem d_RC_init_27 : decode b_RC_init 27 = .ok (.dup, 1) := by decide +kernel
theorem d_RC_init_28 : decode b_RC_init 28 = .ok (.invokespecial 22, 3) := by decide +kernel
theorem d_RC_init_31 : decode b_RC_init 31 = .ok (.putfield 23, 3) := by decide +kernel
theorem d_RC_init_34 : decode b_RC_init 34 = .ok (.aload_n 0, 1) := by decide +kernel
theorem d_RC_init_35 : decode b_RC_init 35 = .ok (.new 27, 3) := by decide +kernel
theorem d_RC_init_38 : decode b_RC_init 38 = .ok (.dup, 1) := by decide +kernel
theorem d_RC_init_39 : decode b_RC_init 39 = .ok (.aload_n 0, 1) := by decide +kernel
theorem d_RC_init_40 : decode b_RC_init 40 = .ok (.getfield 23, 3) := by decide +kernel
theorem d_RC_init_43 : decode b_RC_init 43 = .ok (.invokespecial 29, 3) := by decide +kernel
theorem d_RC_init_46 : decode b_RC_init 46 = .ok (.putfield 32, 3) := by decide +kernel
theorem d_RC_init_49 : decode b_RC_init 49 = .ok (.aload_n 0, 1) := by decide +kernel
theorem d_RC_init_50 : decode b_RC_init 50 = .ok (.iconst 3, 1) := by decide +kernel
theorem d_RC_init_51 : decode b_RC_init 51 = .ok (.anewarray 36, 3) := by decide +kernel
theorem d_RC_init_54 : decode b_RC_init 54 = .ok (.putfield 38, 3) := by decide +kernel
theorem d_RC_init_57 : decode b_RC_init 57 = .ok (.aload_n 0, 1) := by decide +kernel
theorem d_RC_init_58 : decode b_RC_init 58 = .ok (.new 36, 3) := by decide +kernel
theorem d_RC_init_61 : decode b_RC_init 61 = .ok (.dup, 1) := by decide +kernel
theorem d_RC_init_62 : decode b_RC_init 62 = .ok (.invokespecial 42, 3) := by decide +kernel
theorem d_RC_init_65 : decode b_RC_init 65 = .ok (.putfield 43, 3) := by decide +kernel
theorem d_RC_init_68 : decode b_RC_init 68 = .ok (.iconst 0, 1) := by decide +kernel
theorem d_RC_init_69 : decode b_RC_init 69 = .ok (.istore_n 1, 1) := by decide +kernel
theorem d_RC_init_70 : decode b_RC_init 70 = .ok (.iload_n 1, 1) := by decide +kernel
theorem d_RC_init_71 : decode b_RC_init 71 = .ok (.iconst 3, 1) := by decide +kernel
theorem d_RC_init_72 : decode b_RC_init 72 = .ok (.if_icmp .ge 22, 3) := by decide +kernel
theorem d_RC_init_75 : decode b_RC_init 75 = .ok (.aload_n 0, 1) := by decide +kernel
theorem d_RC_init_76 : decode b_RC_init 76 = .ok (.getfield 38, 3) := by decide +kernel
theorem d_RC_init_79 : decode b_RC_init 79 = .ok (.iload_n 1, 1) := by decide +kernel
theorem d_RC_init_80 : decode b_RC_init 80 = .ok (.new 36, 3) := by decide +kernel
theorem d_RC_init_83 : decode b_RC_init 83 = .ok (.dup, 1) := by decide +kernel
theorem d_RC_init_84 : decode b_RC_init 84 = .ok (.invokespecial 42, 3) := by decide +kernel
theorem d_RC_init_87 : decode b_RC_init 87 = .ok (.aastore, 1) := by decide +kernel
theorem d_RC_init_88 : decode b_RC_init 88 = .ok (.iinc 1 1, 3) := by decide +kernel
theorem d_RC_init_91 : decode b_RC_init 91 = .ok (.goto (-21), 3) := by decide +kernel
theorem d_RC_init_94 : decode b_RC_init 94 = .ok (.return_, 1) := by decide +kernel
