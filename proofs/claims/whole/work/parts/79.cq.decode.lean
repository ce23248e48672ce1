theorem d_RR_init_0 : decode b_RR_init 0 = .ok (.aload_n 0, 1) := by decide +kernel
theorem d_RR_init_1 : decode b_RR_init 1 = .ok (.invokespecial 3, 3) := by decide +kernel
theorem d_RR_init_4 : decode b_RR_init 4 = .ok (.aload_n 0, 1) := by decide +kernel
theorem d_RR_init_5 : decode b_RR_init 5 = .ok (.new 9, 3) := by decide +kernel
theorem d_RR_init_8 : decode b_RR_init 8 = .ok (.dup, 1) := by decide +kernel
theorem d_RR_init_9 : decode b_RR_init 9 = .ok (.invokespecial 11, 3) := by decide +kernel
theorem d_RR_init_12 : decode b_RR_init 12 = .ok (.putfield 12, 3) := by decide +kernel
theorem d_RR_init_15 : decode b_RR_init 15 = .ok (.aload_n 0, 1) := by decide +kernel
theorem d_RR_init_16 : decode b_RR_init 16 = .ok (.iconst 4, 1) := by decide +kernel
theorem d_RR_init_17 : decode b_RR_init 17 = .ok (.anewarray 9, 3) := by decide +kernel
theorem d_RR_init_20 : decode b_RR_init 20 = .ok (.putfield 18, 3) := by decide +kernel
theorem d_RR_init_23 : decode b_RR_init 23 = .ok (.aload_n 0, 1) := by decide +kernel
theorem d_RR_init_24 : decode b_RR_init 24 = .ok (.iconst 4, 1) := by decide +kernel
theorem d_RR_init_25 : decode b_RR_init 25 = .ok (.anewarray 9, 3) := by decide +kernel
theorem d_RR_init_28 : decode b_RR_init 28 = .ok (.putfield 22, 3) := by decide +kernel
theorem d_RR_init_31 : decode b_RR_init 31 = .ok (.aload_n 0, 1) := by decide +kernel
theorem d_RR_init_32 : decode b_RR_init 32 = .ok (.iconst 4, 1) := by decide +kernel
theorem d_RR_init_33 : decode b_RR_init 33 = .ok (.newarray .boolean, 2) := by decide +kernel
theorem d_RR_init_35 : decode b_RR_init 35 = .ok (.putfield 25, 3) := by decide +kernel
theorem d_RR_init_38 : decode b_RR_init 38 = .ok (.aload_n 0, 1) := by decide +kernel
theorem d_RR_init_39 : decode b_RR_init 39 = .ok (.new 29, 3) := by decide +kernel
theorem d_RR_init_42 : decode b_RR_init 42 = .ok (.dup, 1) := by decide +kernel
theorem d_RR_init_43 : decode b_RR_init 43 = .ok (.aload_n 1, 1) := by decide +kernel
theorem d_RR_init_44 : decode b_RR_init 44 = .ok (.invokespecial 31, 3) := by decide +kernel
theorem d_RR_init_47 : decode b_RR_init 47 = .ok (.putfield 34, 3) := by decide +kernel
theorem d_RR_init_50 : decode b_RR_init 50 = .ok (.iconst 0, 1) := by decide +kernel
theorem d_RR_init_51 : decode b_RR_init 51 = .ok (.istore_n 2, 1) := by decide +kernel
theorem d_RR_init_52 : decode b_RR_init 52 = .ok (.iload_n 2, 1) := by decide +kernel
theorem d_RR_init_53 : decode b_RR_init 53 = .ok (.iconst 4, 1) := by decide +kernel
theorem d_RR_init_54 : decode b_RR_init 54 = .ok (.if_icmp .ge 35, 3) := by decide +kernel
theorem d_RR_init_57 : decode b_RR_init 57 = .ok (.aload_n 0, 1) := by decide +kernel
theorem d_RR_init_58 : decode b_RR_init 58 = .ok (.getfield 18, 3) := by decide +kernel
theorem d_RR_init_61 : decode b_RR_init 61 = .ok (.iload_n 2, 1) := by decide +kernel
theorem d_RR_init_62 : decode b_RR_init 62 = .ok (.new 9, 3) := by decide +kernel
theorem d_RR_init_65 : decode b_RR_init 65 = .ok (.dup, 1) := by decide +kernel
theorem d_RR_init_66 : decode b_RR_init 66 = .ok (.invokespecial 11, 3) := by decide +kernel
theorem d_RR_init_69 : decode b_RR_init 69 = .ok (.aastore, 1) := by decide +kernel
theorem d_RR_init_70 : decode b_RR_init 70 = .ok (.aload_n 0, 1) := by decide +kernel
theorem d_RR_init_71 : decode b_RR_init 71 = .ok (.getfield 22, 3) := by decide +kernel
theorem d_RR_init_74 : decode b_RR_init 74 = .ok (.iload_n 2, 1) := by decide +kernel
theorem d_RR_init_75 : decode b_RR_init 75 = .ok (.new 9, 3) := by decide +kernel
theorem d_RR_init_78 : decode b_RR_init 78 = .ok (.dup, 1) := by decide +kernel
theorem d_RR_init_79 : decode b_RR_init 79 = .ok (.invokespecial 11, 3) := by decide +kernel
theorem d_RR_init_82 : decode b_RR_init 82 = .ok (.aastore, 1) := by decide +kernel
theorem d_RR_init_83 : decode b_RR_init 83 = .ok (.iinc 2 1, 3) := by decide +kernel
theorem d_RR_init_86 : decode b_RR_init 86 = .ok (.goto (-34), 3) := by decide +kernel
theorem d_RR_init_89 : decode b_RR_init 89 = .ok (.return_, 1) := by decide +kernel
