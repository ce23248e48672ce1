theorem d_SH_init_0 : decode b_SH_init 0 = .ok (.aload_n 0, 1) := by decide +kernel
theorem d_SH_init_1 : decode b_SH_init 1 = .ok (.invokespecial 3, 3) := by decide +kernel
theorem d_SH_init_4 : decode b_SH_init 4 = .ok (.aload_n 0, 1) := by decide +kernel
theorem d_SH_init_5 : decode b_SH_init 5 = .ok (.iconst 4, 1) := by decide +kernel
theorem d_SH_init_6 : decode b_SH_init 6 = .ok (.newarray .int, 2) := by decide +kernel
theorem d_SH_init_8 : decode b_SH_init 8 = .ok (.putfield 9, 3) := by decide +kernel
theorem d_SH_init_11 : decode b_SH_init 11 = .ok (.aload_n 0, 1) := by decide +kernel
theorem d_SH_init_12 : decode b_SH_init 12 = .ok (.iconst 4, 1) := by decide +kernel
theorem d_SH_init_13 : decode b_SH_init 13 = .ok (.newarray .int, 2) := by decide +kernel
theorem d_SH_init_15 : decode b_SH_init 15 = .ok (.putfield 15, 3) := by decide +kernel
theorem d_SH_init_18 : decode b_SH_init 18 = .ok (.iconst 0, 1) := by decide +kernel
theorem d_SH_init_19 : decode b_SH_init 19 = .ok (.istore_n 1, 1) := by decide +kernel
theorem d_SH_init_20 : decode b_SH_init 20 = .ok (.iload_n 1, 1) := by decide +kernel
theorem d_SH_init_21 : decode b_SH_init 21 = .ok (.iconst 4, 1) := by decide +kernel
theorem d_SH_init_22 : decode b_SH_init 22 = .ok (.if_icmp .ge 40, 3) := by decide +kernel
theorem d_SH_init_25 : decode b_SH_init 25 = .ok (.aload_n 0, 1) := by decide +kernel
theorem d_SH_init_26 : decode b_SH_init 26 = .ok (.getfield 9, 3) := by decide +kernel
theorem d_SH_init_29 : decode b_SH_init 29 = .ok (.iload_n 1, 1) := by decide +kernel
theorem d_SH_init_30 : decode b_SH_init 30 = .ok (.sipush 2000, 3) := by decide +kernel
theorem d_SH_init_33 : decode b_SH_init 33 = .ok (.iload_n 1, 1) := by decide +kernel
theorem d_SH_init_34 : decode b_SH_init 34 = .ok (.iadd, 1) := by decide +kernel
theorem d_SH_init_35 : decode b_SH_init 35 = .ok (.iconst 3, 1) := by decide +kernel
theorem d_SH_init_36 : decode b_SH_init 36 = .ok (.invokestatic 18, 3) := by decide +kernel
theorem d_SH_init_39 : decode b_SH_init 39 = .ok (.iastore, 1) := by decide +kernel
theorem d_SH_init_40 : decode b_SH_init 40 = .ok (.aload_n 0, 1) := by decide +kernel
theorem d_SH_init_41 : decode b_SH_init 41 = .ok (.getfield 15, 3) := by decide +kernel
theorem d_SH_init_44 : decode b_SH_init 44 = .ok (.iload_n 1, 1) := by decide +kernel
theorem d_SH_init_45 : decode b_SH_init 45 = .ok (.sipush 2000, 3) := by decide +kernel
theorem d_SH_init_48 : decode b_SH_init 48 = .ok (.iload_n 1, 1) := by decide +kernel
theorem d_SH_init_49 : decode b_SH_init 49 = .ok (.iadd, 1) := by decide +kernel
theorem d_SH_init_50 : decode b_SH_init 50 = .ok (.bipush 10, 2) := by decide +kernel
theorem d_SH_init_52 : decode b_SH_init 52 = .ok (.invokestatic 18, 3) := by decide +kernel
theorem d_SH_init_55 : decode b_SH_init 55 = .ok (.iastore, 1) := by decide +kernel
theorem d_SH_init_56 : decode b_SH_init 56 = .ok (.iinc 1 1, 3) := by decide +kernel
theorem d_SH_init_59 : decode b_SH_init 59 = .ok (.goto (-39), 3) := by decide +kernel
theorem d_SH_init_62 : decode b_SH_init 62 = .ok (.return_, 1) := by decide +kernel
