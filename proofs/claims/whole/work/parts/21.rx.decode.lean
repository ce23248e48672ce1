theorem d_RR_readMatcher_0 : decode b_RR_readMatcher 0 = .ok (.iconst 0, 1) := by decide +kernel
theorem d_RR_readMatcher_1 : decode b_RR_readMatcher 1 = .ok (.istore_n 1, 1) := by decide +kernel
theorem d_RR_readMatcher_2 : decode b_RR_readMatcher 2 = .ok (.aload_n 0, 1) := by decide +kernel
theorem d_RR_readMatcher_3 : decode b_RR_readMatcher 3 = .ok (.iload_n 1, 1) := by decide +kernel
theorem d_RR_readMatcher_4 : decode b_RR_readMatcher 4 = .ok (.invokevirtual 90, 3) := by decide +kernel
theorem d_RR_readMatcher_7 : decode b_RR_readMatcher 7 = .ok (.iconst 0, 1) := by decide +kernel
theorem d_RR_readMatcher_8 : decode b_RR_readMatcher 8 = .ok (.istore_n 2, 1) := by decide +kernel
theorem d_RR_readMatcher_9 : decode b_RR_readMatcher 9 = .ok (.iload_n 2, 1) := by decide +kernel
theorem d_RR_readMatcher_10 : decode b_RR_readMatcher 10 = .ok (.bipush 100, 2) := by decide +kernel
theorem d_RR_readMatcher_12 : decode b_RR_readMatcher 12 = .ok (.if_icmp .ge 124, 3) := by decide +kernel
theorem d_RR_readMatcher_15 : decode b_RR_readMatcher 15 = .ok (.aload_n 0, 1) := by decide +kernel
theorem d_RR_readMatcher_16 : decode b_RR_readMatcher 16 = .ok (.invokevirtual 94, 3) := by decide +kernel
theorem d_RR_readMatcher_19 : decode b_RR_readMatcher 19 = .ok (.istore_n 3, 1) := by decide +kernel
theorem d_RR_readMatcher_20 : decode b_RR_readMatcher 20 = .ok (.iload_n 1, 1) := by decide +kernel
theorem d_RR_readMatcher_21 : decode b_RR_readMatcher 21 = .ok (.iconst 1, 1) := by decide +kernel
theorem d_RR_readMatcher_22 : decode b_RR_readMatcher 22 = .ok (.iadd, 1) := by decide +kernel
theorem d_RR_readMatcher_23 : decode b_RR_readMatcher 23 = .ok (.iconst 4, 1) := by decide +kernel
theorem d_RR_readMatcher_24 : decode b_RR_readMatcher 24 = .ok (.if_icmp .ge 30, 3) := by decide +kernel
theorem d_RR_readMatcher_27 : decode b_RR_readMatcher 27 = .ok (.aload_n 0, 1) := by decide +kernel
theorem d_RR_readMatcher_28 : decode b_RR_readMatcher 28 = .ok (.bipush 40, 2) := by decide +kernel
theorem d_RR_readMatcher_30 : decode b_RR_readMatcher 30 = .ok (.invokevirtual 58, 3) := by decide +kernel
theorem d_RR_readMatcher_33 : decode b_RR_readMatcher 33 = .ok (.ifCond .eq 21, 3) := by decide +kernel
theorem d_RR_readMatcher_36 : decode b_RR_readMatcher 36 = .ok (.iinc 1 1, 3) := by decide +kernel
theorem d_RR_readMatcher_39 : decode b_RR_readMatcher 39 = .ok (.aload_n 0, 1) := by decide +kernel
theorem d_RR_readMatcher_40 : decode b_RR_readMatcher 40 = .ok (.iload_n 1, 1) := by decide +kernel
theorem d_RR_readMatcher_41 : decode b_RR_readMatcher 41 = .ok (.invokevirtual 90, 3) := by decide +kernel
theorem d_RR_readMatcher_44 : decode b_RR_readMatcher 44 = .ok (.aload_n 0, 1) := by decide +kernel
theorem d_RR_readMatcher_45 : decode b_RR_readMatcher 45 = .ok (.getfield 25, 3) := by decide +kernel
theorem d_RR_readMatcher_48 : decode b_RR_readMatcher 48 = .ok (.iload_n 1, 1) := by decide +kernel
theorem d_RR_readMatcher_49 : decode b_RR_readMatcher 49 = .ok (.iload_n 3, 1) := by decide +kernel
theorem d_RR_readMatcher_50 : decode b_RR_readMatcher 50 = .ok (.bastore, 1) := by decide +kernel
theorem d_RR_readMatcher_51 : decode b_RR_readMatcher 51 = .ok (.goto 79, 3) := by decide +kernel
theorem d_RR_readMatcher_54 : decode b_RR_readMatcher 54 = .ok (.aload_n 0, 1) := by decide +kernel
theorem d_RR_readMatcher_55 : decode b_RR_readMatcher 55 = .ok (.invokevirtual 97, 3) := by decide +kernel
theorem d_RR_readMatcher_58 : decode b_RR_readMatcher 58 = .ok (.ifCond .ne 5, 3) := by decide +kernel
theorem d_RR_readMatcher_61 : decode b_RR_readMatcher 61 = .ok (.iconst 0, 1) := by decide +kernel
theorem d_RR_readMatcher_62 : decode b_RR_readMatcher 62 = .ok (.ireturn, 1) := by decide +kernel
theorem d_RR_readMatcher_63 : decode b_RR_readMatcher 63 = .ok (.aload_n 0, 1) := by decide +kernel
theorem d_RR_readMatcher_64 : decode b_RR_readMatcher 64 = .ok (.getfield 34, 3) := by decide +kernel
theorem d_RR_readMatcher_67 : decode b_RR_readMatcher 67 = .ok (.aload_n 0, 1) := by decide +kernel
theorem d_RR_readMatcher_68 : decode b_RR_readMatcher 68 = .ok (.getfield 12, 3) := by decide +kernel
theorem d_RR_readMatcher_71 : decode b_RR_readMatcher 71 = .ok (.invokevirtual 100, 3) := by decide +kernel
theorem d_RR_readMatcher_74 : decode b_RR_readMatcher 74 = .ok (.aload_n 0, 1) := by decide +kernel
theorem d_RR_readMatcher_75 : decode b_RR_readMatcher 75 = .ok (.getfield 22, 3) := by decide +kernel
theorem d_RR_readMatcher_78 : decode b_RR_readMatcher 78 = .ok (.iload_n 1, 1) := by decide +kernel
theorem d_RR_readMatcher_79 : decode b_RR_readMatcher 79 = .ok (.aaload, 1) := by decide +kernel
theorem d_RR_readMatcher_80 : decode b_RR_readMatcher 80 = .ok (.aload_n 0, 1) := by decide +kernel
theorem d_RR_readMatcher_81 : decode b_RR_readMatcher 81 = .ok (.getfield 12, 3) := by decide +kernel
theorem d_RR_readMatcher_84 : decode b_RR_readMatcher 84 = .ok (.iload_n 3, 1) := by decide +kernel
theorem d_RR_readMatcher_85 : decode b_RR_readMatcher 85 = .ok (.invokevirtual 104, 3) := by decide +kernel
theorem d_RR_readMatcher_88 : decode b_RR_readMatcher 88 = .ok (.aload_n 0, 1) := by decide +kernel
theorem d_RR_readMatcher_89 : decode b_RR_readMatcher 89 = .ok (.iload_n 1, 1) := by decide +kernel
theorem d_RR_readMatcher_90 : decode b_RR_readMatcher 90 = .ok (.invokevirtual 108, 3) := by decide +kernel
theorem d_RR_readMatcher_93 : decode b_RR_readMatcher 93 = .ok (.istore_n 1, 1) := by decide +kernel
theorem d_RR_readMatcher_94 : decode b_RR_readMatcher 94 = .ok (.aload_n 0, 1) := by decide +kernel
theorem d_RR_readMatcher_95 : decode b_RR_readMatcher 95 = .ok (.bipush 38, 2) := by decide +kernel
theorem d_RR_readMatcher_97 : decode b_RR_readMatcher 97 = .ok (.invokevirtual 58, 3) := by decide +kernel
theorem d_RR_readMatcher_100 : decode b_RR_readMatcher 100 = .ok (.ifCond .eq 6, 3) := by decide +kernel
theorem d_RR_readMatcher_103 : decode b_RR_readMatcher 103 = .ok (.goto 27, 3) := by decide +kernel
theorem d_RR_readMatcher_106 : decode b_RR_readMatcher 106 = .ok (.aload_n 0, 1) := by decide +kernel
theorem d_RR_readMatcher_107 : decode b_RR_readMatcher 107 = .ok (.iload_n 1, 1) := by decide +kernel
theorem d_RR_readMatcher_108 : decode b_RR_readMatcher 108 = .ok (.invokevirtual 112, 3) := by decide +kernel
theorem d_RR_readMatcher_111 : decode b_RR_readMatcher 111 = .ok (.aload_n 0, 1) := by decide +kernel
theorem d_RR_readMatcher_112 : decode b_RR_readMatcher 112 = .ok (.bipush 124, 2) := by decide +kernel
theorem d_RR_readMatcher_114 : decode b_RR_readMatcher 114 = .ok (.invokevirtual 58, 3) := by decide +kernel
theorem d_RR_readMatcher_117 : decode b_RR_readMatcher 117 = .ok (.ifCond .ne 13, 3) := by decide +kernel
theorem d_RR_readMatcher_120 : decode b_RR_readMatcher 120 = .ok (.iload_n 1, 1) := by decide +kernel
theorem d_RR_readMatcher_121 : decode b_RR_readMatcher 121 = .ok (.ifCond .ne 7, 3) := by decide +kernel
theorem d_RR_readMatcher_124 : decode b_RR_readMatcher 124 = .ok (.iconst 1, 1) := by decide +kernel
theorem d_RR_readMatcher_125 : decode b_RR_readMatcher 125 = .ok (.goto 4, 3) := by decide +kernel
theorem d_RR_readMatcher_128 : decode b_RR_readMatcher 128 = .ok (.iconst 0, 1) := by decide +kernel
theorem d_RR_readMatcher_129 : decode b_RR_readMatcher 129 = .ok (.ireturn, 1) := by decide +kernel
theorem d_RR_readMatcher_130 : decode b_RR_readMatcher 130 = .ok (.iinc 2 1, 3) := by decide +kernel
theorem d_RR_readMatcher_133 : decode b_RR_readMatcher 133 = .ok (.goto (-124), 3) := by decide +kernel
theorem d_RR_readMatcher_136 : decode b_RR_readMatcher 136 = .ok (.iconst 0, 1) := by decide +kernel
theorem d_RR_readMatcher_137 : decode b_RR_readMatcher 137 = .ok (.ireturn, 1) := by decide +kernel
