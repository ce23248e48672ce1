theorem d_RR_read_0 : decode b_RR_read 0 = .ok (.aload_n 0, 1) := by decide +kernel
theorem d_RR_read_1 : decode b_RR_read 1 = .ok (.aload_n 1, 1) := by decide +kernel
theorem d_RR_read_2 : decode b_RR_read 2 = .ok (.putfield 38, 3) := by decide +kernel
theorem d_RR_read_5 : decode b_RR_read 5 = .ok (.aload_n 0, 1) := by decide +kernel
theorem d_RR_read_6 : decode b_RR_read 6 = .ok (.iload_n 2, 1) := by decide +kernel
theorem d_RR_read_7 : decode b_RR_read 7 = .ok (.putfield 42, 3) := by decide +kernel
theorem d_RR_read_10 : decode b_RR_read 10 = .ok (.aload_n 0, 1) := by decide +kernel
theorem d_RR_read_11 : decode b_RR_read 11 = .ok (.iconst 0, 1) := by decide +kernel
theorem d_RR_read_12 : decode b_RR_read 12 = .ok (.putfield 46, 3) := by decide +kernel
theorem d_RR_read_15 : decode b_RR_read 15 = .ok (.aload_n 3, 1) := by decide +kernel
theorem d_RR_read_16 : decode b_RR_read 16 = .ok (.invokevirtual 49, 3) := by decide +kernel
theorem d_RR_read_19 : decode b_RR_read 19 = .ok (.iconst 1, 1) := by decide +kernel
theorem d_RR_read_20 : decode b_RR_read 20 = .ok (.istore 4, 2) := by decide +kernel
theorem d_RR_read_22 : decode b_RR_read 22 = .ok (.iload 4, 2) := by decide +kernel
theorem d_RR_read_24 : decode b_RR_read 24 = .ok (.bipush 12, 2) := by decide +kernel
theorem d_RR_read_26 : decode b_RR_read 26 = .ok (.if_icmp .gt 50, 3) := by decide +kernel
theorem d_RR_read_29 : decode b_RR_read 29 = .ok (.aload_n 0, 1) := by decide +kernel
theorem d_RR_read_30 : decode b_RR_read 30 = .ok (.aload_n 3, 1) := by decide +kernel
theorem d_RR_read_31 : decode b_RR_read 31 = .ok (.invokevirtual 54, 3) := by decide +kernel
theorem d_RR_read_34 : decode b_RR_read 34 = .ok (.ifCond .ne 5, 3) := by decide +kernel
theorem d_RR_read_37 : decode b_RR_read 37 = .ok (.iconst 0, 1) := by decide +kernel
theorem d_RR_read_38 : decode b_RR_read 38 = .ok (.ireturn, 1) := by decide +kernel
theorem d_RR_read_39 : decode b_RR_read 39 = .ok (.aload_n 0, 1) := by decide +kernel
theorem d_RR_read_40 : decode b_RR_read 40 = .ok (.getfield 46, 3) := by decide +kernel
theorem d_RR_read_43 : decode b_RR_read 43 = .ok (.aload_n 0, 1) := by decide +kernel
theorem d_RR_read_44 : decode b_RR_read 44 = .ok (.getfield 42, 3) := by decide +kernel
theorem d_RR_read_47 : decode b_RR_read 47 = .ok (.if_icmp .ne 5, 3) := by decide +kernel
theorem d_RR_read_50 : decode b_RR_read 50 = .ok (.iconst 1, 1) := by decide +kernel
theorem d_RR_read_51 : decode b_RR_read 51 = .ok (.ireturn, 1) := by decide +kernel
theorem d_RR_read_52 : decode b_RR_read 52 = .ok (.iload 4, 2) := by decide +kernel
theorem d_RR_read_54 : decode b_RR_read 54 = .ok (.bipush 12, 2) := by decide +kernel
theorem d_RR_read_56 : decode b_RR_read 56 = .ok (.if_icmp .eq 12, 3) := by decide +kernel
theorem d_RR_read_59 : decode b_RR_read 59 = .ok (.aload_n 0, 1) := by decide +kernel
theorem d_RR_read_60 : decode b_RR_read 60 = .ok (.bipush 59, 2) := by decide +kernel
theorem d_RR_read_62 : decode b_RR_read 62 = .ok (.invokevirtual 58, 3) := by decide +kernel
theorem d_RR_read_65 : decode b_RR_read 65 = .ok (.ifCond .ne 5, 3) := by decide +kernel
theorem d_RR_read_68 : decode b_RR_read 68 = .ok (.iconst 0, 1) := by decide +kernel
theorem d_RR_read_69 : decode b_RR_read 69 = .ok (.ireturn, 1) := by decide +kernel
theorem d_RR_read_70 : decode b_RR_read 70 = .ok (.iinc 4 1, 3) := by decide +kernel
theorem d_RR_read_73 : decode b_RR_read 73 = .ok (.goto (-51), 3) := by decide +kernel
theorem d_RR_read_76 : decode b_RR_read 76 = .ok (.iconst 0, 1) := by decide +kernel
theorem d_RR_read_77 : decode b_RR_read 77 = .ok (.ireturn, 1) := by decide +kernel
