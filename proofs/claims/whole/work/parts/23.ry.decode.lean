theorem d_RR_readRule_0 : decode b_RR_readRule 0 = .ok (.aload_n 0, 1) := by decide +kernel
theorem d_RR_readRule_1 : decode b_RR_readRule 1 = .ok (.iconst 1, 1) := by decide +kernel
theorem d_RR_readRule_2 : decode b_RR_readRule 2 = .ok (.iconst 0, 1) := by decide +kernel
theorem d_RR_readRule_3 : decode b_RR_readRule 3 = .ok (.bipush 9, 2) := by decide +kernel
theorem d_RR_readRule_5 : decode b_RR_readRule 5 = .ok (.invokevirtual 62, 3) := by decide +kernel
theorem d_RR_readRule_8 : decode b_RR_readRule 8 = .ok (.istore_n 2, 1) := by decide +kernel
theorem d_RR_readRule_9 : decode b_RR_readRule 9 = .ok (.iload_n 2, 1) := by decide +kernel
theorem d_RR_readRule_10 : decode b_RR_readRule 10 = .ok (.iconst (-1), 1) := by decide +kernel
theorem d_RR_readRule_11 : decode b_RR_readRule 11 = .ok (.if_icmp .ne 5, 3) := by decide +kernel
theorem d_RR_readRule_14 : decode b_RR_readRule 14 = .ok (.iconst 0, 1) := by decide +kernel
theorem d_RR_readRule_15 : decode b_RR_readRule 15 = .ok (.ireturn, 1) := by decide +kernel
theorem d_RR_readRule_16 : decode b_RR_readRule 16 = .ok (.aload_n 0, 1) := by decide +kernel
theorem d_RR_readRule_17 : decode b_RR_readRule 17 = .ok (.iconst 0, 1) := by decide +kernel
theorem d_RR_readRule_18 : decode b_RR_readRule 18 = .ok (.putfield 66, 3) := by decide +kernel
theorem d_RR_readRule_21 : decode b_RR_readRule 21 = .ok (.aload_n 0, 1) := by decide +kernel
theorem d_RR_readRule_22 : decode b_RR_readRule 22 = .ok (.bipush 48, 2) := by decide +kernel
theorem d_RR_readRule_24 : decode b_RR_readRule 24 = .ok (.putfield 69, 3) := by decide +kernel
theorem d_RR_readRule_27 : decode b_RR_readRule 27 = .ok (.aload_n 0, 1) := by decide +kernel
theorem d_RR_readRule_28 : decode b_RR_readRule 28 = .ok (.bipush 64, 2) := by decide +kernel
theorem d_RR_readRule_30 : decode b_RR_readRule 30 = .ok (.invokevirtual 58, 3) := by decide +kernel
theorem d_RR_readRule_33 : decode b_RR_readRule 33 = .ok (.ifCond .eq 12, 3) := by decide +kernel
theorem d_RR_readRule_36 : decode b_RR_readRule 36 = .ok (.aload_n 0, 1) := by decide +kernel
theorem d_RR_readRule_37 : decode b_RR_readRule 37 = .ok (.invokevirtual 72, 3) := by decide +kernel
theorem d_RR_readRule_40 : decode b_RR_readRule 40 = .ok (.ifCond .ne 5, 3) := by decide +kernel
theorem d_RR_readRule_43 : decode b_RR_readRule 43 = .ok (.iconst 0, 1) := by decide +kernel
theorem d_RR_readRule_44 : decode b_RR_readRule 44 = .ok (.ireturn, 1) := by decide +kernel
theorem d_RR_readRule_45 : decode b_RR_readRule 45 = .ok (.aload_n 0, 1) := by decide +kernel
theorem d_RR_readRule_46 : decode b_RR_readRule 46 = .ok (.getfield 46, 3) := by decide +kernel
theorem d_RR_readRule_49 : decode b_RR_readRule 49 = .ok (.aload_n 0, 1) := by decide +kernel
theorem d_RR_readRule_50 : decode b_RR_readRule 50 = .ok (.getfield 42, 3) := by decide +kernel
theorem d_RR_readRule_53 : decode b_RR_readRule 53 = .ok (.if_icmp .eq 17, 3) := by decide +kernel
theorem d_RR_readRule_56 : decode b_RR_readRule 56 = .ok (.aload_n 0, 1) := by decide +kernel
theorem d_RR_readRule_57 : decode b_RR_readRule 57 = .ok (.getfield 38, 3) := by decide +kernel
theorem d_RR_readRule_60 : decode b_RR_readRule 60 = .ok (.aload_n 0, 1) := by decide +kernel
theorem d_RR_readRule_61 : decode b_RR_readRule 61 = .ok (.getfield 46, 3) := by decide +kernel
theorem d_RR_readRule_64 : decode b_RR_readRule 64 = .ok (.caload, 1) := by decide +kernel
theorem d_RR_readRule_65 : decode b_RR_readRule 65 = .ok (.bipush 59, 2) := by decide +kernel
theorem d_RR_readRule_67 : decode b_RR_readRule 67 = .ok (.if_icmp .ne 15, 3) := by decide +kernel
theorem d_RR_readRule_70 : decode b_RR_readRule 70 = .ok (.aload_n 0, 1) := by decide +kernel
theorem d_RR_readRule_71 : decode b_RR_readRule 71 = .ok (.getfield 18, 3) := by decide +kernel
theorem d_RR_readRule_74 : decode b_RR_readRule 74 = .ok (.iconst 0, 1) := by decide +kernel
theorem d_RR_readRule_75 : decode b_RR_readRule 75 = .ok (.aaload, 1) := by decide +kernel
theorem d_RR_readRule_76 : decode b_RR_readRule 76 = .ok (.invokevirtual 76, 3) := by decide +kernel
theorem d_RR_readRule_79 : decode b_RR_readRule 79 = .ok (.goto 12, 3) := by decide +kernel
theorem d_RR_readRule_82 : decode b_RR_readRule 82 = .ok (.aload_n 0, 1) := by decide +kernel
theorem d_RR_readRule_83 : decode b_RR_readRule 83 = .ok (.invokevirtual 79, 3) := by decide +kernel
theorem d_RR_readRule_86 : decode b_RR_readRule 86 = .ok (.ifCond .ne 5, 3) := by decide +kernel
theorem d_RR_readRule_89 : decode b_RR_readRule 89 = .ok (.iconst 0, 1) := by decide +kernel
theorem d_RR_readRule_90 : decode b_RR_readRule 90 = .ok (.ireturn, 1) := by decide +kernel
theorem d_RR_readRule_91 : decode b_RR_readRule 91 = .ok (.aload_n 1, 1) := by decide +kernel
theorem d_RR_readRule_92 : decode b_RR_readRule 92 = .ok (.iload_n 2, 1) := by decide +kernel
theorem d_RR_readRule_93 : decode b_RR_readRule 93 = .ok (.aload_n 0, 1) := by decide +kernel
theorem d_RR_readRule_94 : decode b_RR_readRule 94 = .ok (.getfield 66, 3) := by decide +kernel
theorem d_RR_readRule_97 : decode b_RR_readRule 97 = .ok (.aload_n 0, 1) := by decide +kernel
theorem d_RR_readRule_98 : decode b_RR_readRule 98 = .ok (.getfield 69, 3) := by decide +kernel
theorem d_RR_readRule_101 : decode b_RR_readRule 101 = .ok (.aload_n 0, 1) := by decide +kernel
theorem d_RR_readRule_102 : decode b_RR_readRule 102 = .ok (.getfield 18, 3) := by decide +kernel
theorem d_RR_readRule_105 : decode b_RR_readRule 105 = .ok (.iconst 0, 1) := by decide +kernel
theorem d_RR_readRule_106 : decode b_RR_readRule 106 = .ok (.aaload, 1) := by decide +kernel
theorem d_RR_readRule_107 : decode b_RR_readRule 107 = .ok (.invokevirtual 82, 3) := by decide +kernel
theorem d_RR_readRule_110 : decode b_RR_readRule 110 = .ok (.iconst 1, 1) := by decide +kernel
theorem d_RR_readRule_111 : decode b_RR_readRule 111 = .ok (.ireturn, 1) := by decide +kernel
