theorem d_AL_init_0 : decode b_AL_init 0 = .ok (.aload_n 0, 1) := by decide +kernel
theorem d_AL_init_1 : decode b_AL_init 1 = .ok (.invokespecial 3, 3) := by decide +kernel
theorem d_AL_init_4 : decode b_AL_init 4 = .ok (.aload_n 0, 1) := by decide +kernel
theorem d_AL_init_5 : decode b_AL_init 5 = .ok (.sipush 1461, 3) := by decide +kernel
theorem d_AL_init_8 : decode b_AL_init 8 = .ok (.newarray .int, 2) := by decide +kernel
theorem d_AL_init_10 : decode b_AL_init 10 = .ok (.putfield 9, 3) := by decide +kernel
theorem d_AL_init_13 : decode b_AL_init 13 = .ok (.aload_n 0, 1) := by decide +kernel
theorem d_AL_init_14 : decode b_AL_init 14 = .ok (.iconst 4, 1) := by decide +kernel
theorem d_AL_init_15 : decode b_AL_init 15 = .ok (.newarray .int, 2) := by decide +kernel
theorem d_AL_init_17 : decode b_AL_init 17 = .ok (.putfield 15, 3) := by decide +kernel
theorem d_AL_init_20 : decode b_AL_init 20 = .ok (.iconst 0, 1) := by decide +kernel
theorem d_AL_init_21 : decode b_AL_init 21 = .ok (.istore_n 1, 1) := by decide +kernel
theorem d_AL_init_22 : decode b_AL_init 22 = .ok (.sipush 2000, 3) := by decide +kernel
theorem d_AL_init_25 : decode b_AL_init 25 = .ok (.istore_n 2, 1) := by decide +kernel
theorem d_AL_init_26 : decode b_AL_init 26 = .ok (.iload_n 2, 1) := by decide +kernel
theorem d_AL_init_27 : decode b_AL_init 27 = .ok (.sipush 2004, 3) := by decide +kernel
theorem d_AL_init_30 : decode b_AL_init 30 = .ok (.if_icmp .ge 98, 3) := by decide +kernel
theorem d_AL_init_33 : decode b_AL_init 33 = .ok (.iconst 1, 1) := by decide +kernel
theorem d_AL_init_34 : decode b_AL_init 34 = .ok (.istore_n 3, 1) := by decide +kernel
theorem d_AL_init_35 : decode b_AL_init 35 = .ok (.iload_n 3, 1) := by decide +kernel
theorem d_AL_init_36 : decode b_AL_init 36 = .ok (.bipush 12, 2) := by decide +kernel
theorem d_AL_init_38 : decode b_AL_init 38 = .ok (.if_icmp .gt 57, 3) := by decide +kernel
theorem d_AL_init_41 : decode b_AL_init 41 = .ok (.iconst 1, 1) := by decide +kernel
theorem d_AL_init_42 : decode b_AL_init 42 = .ok (.istore 4, 2) := by decide +kernel
theorem d_AL_init_44 : decode b_AL_init 44 = .ok (.iload 4, 2) := by decide +kernel
theorem d_AL_init_46 : decode b_AL_init 46 = .ok (.iload_n 2, 1) := by decide +kernel
theorem d_AL_init_47 : decode b_AL_init 47 = .ok (.iload_n 3, 1) := by decide +kernel
theorem d_AL_init_48 : decode b_AL_init 48 = .ok (.invokestatic 18, 3) := by decide +kernel
theorem d_AL_init_51 : decode b_AL_init 51 = .ok (.if_icmp .gt 38, 3) := by decide +kernel
theorem d_AL_init_54 : decode b_AL_init 54 = .ok (.iload_n 1, 1) := by decide +kernel
theorem d_AL_init_55 : decode b_AL_init 55 = .ok (.sipush 1461, 3) := by decide +kernel
theorem d_AL_init_58 : decode b_AL_init 58 = .ok (.if_icmp .ge 31, 3) := by decide +kernel
theorem d_AL_init_61 : decode b_AL_init 61 = .ok (.aload_n 0, 1) := by decide +kernel
theorem d_AL_init_62 : decode b_AL_init 62 = .ok (.getfield 9, 3) := by decide +kernel
theorem d_AL_init_65 : decode b_AL_init 65 = .ok (.iload_n 1, 1) := by decide +kernel
theorem d_AL_init_66 : decode b_AL_init 66 = .ok (.sipush 10000, 3) := by decide +kernel
theorem d_AL_init_69 : decode b_AL_init 69 = .ok (.iload_n 2, 1) := by decide +kernel
theorem d_AL_init_70 : decode b_AL_init 70 = .ok (.imul, 1) := by decide +kernel
theorem d_AL_init_71 : decode b_AL_init 71 = .ok (.bipush 100, 2) := by decide +kernel
theorem d_AL_init_73 : decode b_AL_init 73 = .ok (.iload_n 3, 1) := by decide +kernel
theorem d_AL_init_74 : decode b_AL_init 74 = .ok (.imul, 1) := by decide +kernel
theorem d_AL_init_75 : decode b_AL_init 75 = .ok (.iadd, 1) := by decide +kernel
theorem d_AL_init_76 : decode b_AL_init 76 = .ok (.iload 4, 2) := by decide +kernel
theorem d_AL_init_78 : decode b_AL_init 78 = .ok (.iadd, 1) := by decide +kernel
theorem d_AL_init_79 : decode b_AL_init 79 = .ok (.iastore, 1) := by decide +kernel
theorem d_AL_init_80 : decode b_AL_init 80 = .ok (.iinc 1 1, 3) := by decide +kernel
theorem d_AL_init_83 : decode b_AL_init 83 = .ok (.iinc 4 1, 3) := by decide +kernel
theorem d_AL_init_86 : decode b_AL_init 86 = .ok (.goto (-42), 3) := by decide +kernel
theorem d_AL_init_89 : decode b_AL_init 89 = .ok (.iinc 3 1, 3) := by decide +kernel
theorem d_AL_init_92 : decode b_AL_init 92 = .ok (.goto (-57), 3) := by decide +kernel
theorem d_AL_init_95 : decode b_AL_init 95 = .ok (.iload_n 2, 1) := by decide +kernel
theorem d_AL_init_96 : decode b_AL_init 96 = .ok (.invokestatic 22, 3) := by decide +kernel
theorem d_AL_init_99 : decode b_AL_init 99 = .ok (.istore_n 3, 1) := by decide +kernel
theorem d_AL_init_100 : decode b_AL_init 100 = .ok (.aload_n 0, 1) := by decide +kernel
theorem d_AL_init_101 : decode b_AL_init 101 = .ok (.getfield 15, 3) := by decide +kernel
theorem d_AL_init_104 : decode b_AL_init 104 = .ok (.iload_n 2, 1) := by decide +kernel
theorem d_AL_init_105 : decode b_AL_init 105 = .ok (.sipush 2000, 3) := by decide +kernel
theorem d_AL_init_108 : decode b_AL_init 108 = .ok (.isub, 1) := by decide +kernel
theorem d_AL_init_109 : decode b_AL_init 109 = .ok (.iload_n 2, 1) := by decide +kernel
theorem d_AL_init_110 : decode b_AL_init 110 = .ok (.iload_n 3, 1) := by decide +kernel
theorem d_AL_init_111 : decode b_AL_init 111 = .ok (.bipush 100, 2) := by decide +kernel
theorem d_AL_init_113 : decode b_AL_init 113 = .ok (.idiv, 1) := by decide +kernel
theorem d_AL_init_114 : decode b_AL_init 114 = .ok (.iload_n 3, 1) := by decide +kernel
theorem d_AL_init_115 : decode b_AL_init 115 = .ok (.bipush 100, 2) := by decide +kernel
theorem d_AL_init_117 : decode b_AL_init 117 = .ok (.irem, 1) := by decide +kernel
theorem d_AL_init_118 : decode b_AL_init 118 = .ok (.invokestatic 26, 3) := by decide +kernel
theorem d_AL_init_121 : decode b_AL_init 121 = .ok (.iastore, 1) := by decide +kernel
theorem d_AL_init_122 : decode b_AL_init 122 = .ok (.iinc 2 1, 3) := by decide +kernel
theorem d_AL_init_125 : decode b_AL_init 125 = .ok (.goto (-99), 3) := by decide +kernel
theorem d_AL_init_128 : decode b_AL_init 128 = .ok (.return_, 1) := by decide +kernel
