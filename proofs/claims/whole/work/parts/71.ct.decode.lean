theorem d_AL_init_0 : decode b_AL_init 0 = .ok (.aload_n 0, 1) := by decide +kernel
theorem d_AL_init_1 : decode b_AL_init 1 = .ok (.invokespecial 3, 3) := by decide +kernel
theorem d_AL_init_4 : decode b_AL_init 4 = .ok (.aload_n 0, 1) := by decide +kernel
theorem d_AL_init_5 : decode b_AL_init 5 = .ok (.sipush 1461, 3) := by decide +kernel
theorem d_AL_init_8 : decode b_AL_init 8 = .ok (.newarray .int, 2) := by decide +kernel
theorem d_AL_init_10 : decode b_AL_init 10 = .ok (.putfield 9, 3) := by decide +kernel
theorem d_AL_init_13 : decode b_AL_init 13 = .ok (.aload_n 0, 1) := by decide +kernel
theorem d_AL_init_14 : decode b_AL_init 14 = .ok (.iconst 4, 1) := by decide +kernel
theorem d_AL_init_15 : decode b_AL_init 15 = .ok (.newarray .int, 2) := by decide +kernel
theorem d_AL_init_17 : decode b_AL_init 17 = .ok (.putfield 15, 3) := by decide +kernel
theorem d_AL_init_20 : decode b_AL_init 20 = .ok (.iconst 0, 1) := by decide +kernel
theorem d_AL_init_21 : decode b_AL_init 21 = .ok (.istore_n 1, 1) := by decide +kernel
theorem d_AL_init_22 : decode b_AL_init 22 = .ok (.sipush 2000, 3) := by decide +kernel
theorem d_AL_init_25 : decode b_AL_init 25 = .ok (.istore_n 2, 1) := by decide +kernel
theorem d_AL_init_26 : decode b_AL_init 26 = .ok (.iload_n 2, 1) := by decide +kernel
theorem d_AL_init_27 : decode b_AL_init 27 = .ok (.sipush 2004, 3) := by decide +kernel
theorem d_AL_init_30 : decode b_AL_init 30 = .ok (.if_icmp .ge 98, 3) := by decide +kernel
theorem d_AL_init_33 : decode b_AL_init 33 = .ok (.iconst 1, 1) := by decide +kernel
theorem d_AL_init_34 : decode b_AL_init 34 = .ok (.istore_n 3, 1) := by decide +kernel
theorem d_AL_init_35 : decode b_AL_init 35 = .ok (.iload_n 3, 1) := by decide +kernel
theorem d_AL_init_36 : decode b_AL_init 36 = .ok (.bipush 12, 2) := by decide +kernel
theorem d_AL_init_38 : decode b_AL_init 38 = .ok (.if_icmp .gt 57, 3) := by decide +kernel
theorem d_AL_init_41 : decode b_AL_init 41 = .ok (.iconst 1, 1) := by decide +kernel
theorem d_AL_init_42 : decode b_AL_init 42 = .ok (.istore 4, 2) := by decide +kernel
theorem d_AL_init_44 : decode b_AL_init 44 = .ok (.iload 4, 2) := by decide +kernel
theorem d_AL_init_46 : decode b_AL_init 46 = .ok (.iload_n 2, 1) := by decide +kernel
theorem d_AL_init_47 : decode b_AL_init 47 = .ok (.iload_n 3, 1) := by decide +kernel
theorem d_AL_init_48 : decode b_AL_init 48 = .ok (.invokestatic 18, 3) := by decide +kernel
theorem d_AL_init_51 : decode b_AL_init 51 = .ok (.if_icmp .gt 38, 3) := by decide +kernel
theorem d_AL_init_54 : decode b_AL_init 54 = .ok (.iload_n 1, 1) := by decide +kernel
theorem d_AL_init_55 : decode b_AL_init 55 = .ok (.sipush 1461, 3) := by decide +kernel
theorem d_AL_init_58 : decode b_AL_init 58 = .ok (.if_icmp .ge 31, 3) := by decide +kernel
theorem d_AL_init_61 : decode b_AL_init 61 = .ok (.aload_n 0, 1) := by decide +kernel
theorem d_AL_init_62 : decode b_AL_init 62 = .ok (.getfield 9, 3) := by decide +kernel
theorem d_AL_init_65 : decode b_AL_init 65 = .ok (.iload_n 1, 1) := by decide +kernel
theorem d_AL_init_66 : decode b_AL_init 66 = .ok (.sipush 10000, 3) := by decide +kernel
theorem d_AL_init_69 : decode b_AL_init 69 = .ok (.iload_n 2, 1) := by decide +kernel
theorem d_AL_init_70 : decode b_AL_init 70 = .ok (.imul, 1) := by decide +kernel
theorem d_AL_init_71 : decode b_AL_init 71 = .ok (.bipush 100, 2) := by decide +kernel
theorem d_AL_init_73 : decode b_AL_init 73 = .ok (.iload_n 3, 1) := by decide +kernel
theorem d_AL_init_74 : decode b_AL_init 74 = .ok (.imul, 1) := by decide +kernel
theorem d_AL_init_75 : decode b_AL_init 75 = .ok (.iadd, 1) := by decide +kernel
theorem d_AL_init_76 : decode b_AL_init 76 = .ok (.iload 4, 2) := by decide +kernel
theorem d_AL_init_78 : decode b_AL_init 78 = .ok (.iadd, 1) := by decide +kernel
theorem d_AL_init_79 : decode b_AL_init 79 = .ok (.iastore, 1) := by decide +kernel
theorem d_AL_init_80 : decode b_AL_init 80 = .ok (.iinc 1 1, 3) := by decide +kernel
theorem d_AL_init_83 : decode b_AL_init 83 = .ok (.iinc 4 1, 3) := by decide +kernel
theorem d_AL_init_86 : decode b_AL_init 86 = .ok (.goto (-42), 3) := by decide +kernel
theorem d_AL_init_89 : decode b_AL_init 89 = .ok (.iinc 3 1, 3) := by decide +kernel
theorem d_AL_init_92 : decode b_AL_init 92 = .ok (.goto (-57), 3) := by decide +kernel
theorem d_AL_init_95 : decode b_AL_init 95 = .ok (.iload_n 2, 1) := by decide +kernel
theorem d_AL_init_96 : decode b_AL_init 96 = .ok (.invokestatic 22, 3) := by decide +kernel
theorem d_AL_init_99 : decode b_AL_init 99 = .ok (.istore_n 3, 1) := by decide +kernel
theorem d_AL_init_100 : decode b_AL_init 100 = .ok (.aload_n 0, 1) := by decide +kernel
theorem d_AL_init_101 : decode b_AL_init 101 = .ok (.getfield 15, 3) := by decide +kernel
theorem d_AL_init_104 : decode b_AL_init 104 = .ok (.iload_n 2, 1) := by decide +kernel
theorem d_AL_init_105 : decode b_AL_init 105 = .ok (.sipush 2000, 3) := by decide +kernel
theorem d_AL_init_108 : decode b_AL_init 108 = .ok (.isub, 1) := by decide +kernel
theorem d_AL_init_109 : decode b_AL_init 109 = .ok (.iload_n 2, 1) := by decide +kernel
theorem d_AL_init_110 : decode b_AL_init 110 = .ok (.iload_n 3, 1) := by decide +kernel
theorem d_AL_init_111 : decode b_AL_init 111 = .ok (.bipush 100, 2) := by decide +kernel
theorem d_AL_init_113 : decode b_AL_init 113 = .ok (.idiv, 1) := by decide +kernel
theorem d_AL_init_114 : decode b_AL_init 114 = .ok (.iload_n 3, 1) := by decide +kernel
theorem d_AL_init_115 : decode b_AL_init 115 = .ok (.bipush 100, 2) := by decide +kernel
theorem d_AL_init_117 : decode b_AL_init 117 = .ok (.irem, 1) := by decide +kernel
theorem d_AL_init_118 : decode b_AL_init 118 = .ok (.invokestatic 26, 3) := by decide +kernel
theorem d_AL_init_121 : decode b_AL_init 121 = .ok (.iastore, 1) := by decide +kernel
theorem d_AL_init_122 : decode b_AL_init 122 = .ok (.iinc 2 1, 3) := by decide +kernel
theorem d_AL_init_125 : decode b_AL_init 125 = .ok (.goto (-99), 3) := by decide +kernel
theorem d_AL_init_128 : decode b_AL_init 128 = .ok (.return_, 1) := by decide +kernel
theorem d_AT_init_0 : decode b_AT_init 0 = .ok (.aload_n 0, 1) := by decide +kernel
theorem d_AT_init_1 : decode b_AT_init 1 = .ok (.invokespecial 3, 3) := by decide +kernel
theorem d_AT_init_4 : decode b_AT_init 4 = .ok (.aload_n 0, 1) := by decide +kernel
theorem d_AT_init_5 : decode b_AT_init 5 = .ok (.aload_n 1, 1) := by decide +kernel
theorem d_AT_init_6 : decode b_AT_init 6 = .ok (.putfield 9, 3) := by decide +kernel
theorem d_AT_init_9 : decode b_AT_init 9 = .ok (.return_, 1) := by decide +kernel
theorem d_CN_init_0 : decode b_CN_init 0 = .ok (.aload_n 0, 1) := by decide +kernel
theorem d_CN_init_1 : decode b_CN_init 1 = .ok (.invokespecial 3, 3) := by decide +kernel
theorem d_CN_init_4 : decode b_CN_init 4 = .ok (.aload_n 0, 1) := by decide +kernel
theorem d_CN_init_5 : decode b_CN_init 5 = .ok (.iconst 4, 1) := by decide +kernel
theorem d_CN_init_6 : decode b_CN_init 6 = .ok (.sipush 1461, 3) := by decide +kernel
theorem d_CN_init_9 : decode b_CN_init 9 = .ok (.multianewarray 11 2, 4) := by decide +kernel
theorem d_CN_init_13 : decode b_CN_init 13 = .ok (.putfield 13, 3) := by decide +kernel
theorem d_CN_init_16 : decode b_CN_init 16 = .ok (.return_, 1) := by decide +kernel
theorem d_DS_init_0 : decode b_DS_init 0 = .ok (.aload_n 0, 1) := by decide +kernel
theorem d_DS_init_1 : decode b_DS_init 1 = .ok (.invokespecial 3, 3) := by decide +kernel
theorem d_DS_init_4 : decode b_DS_init 4 = .ok (.aload_n 0, 1) := by decide +kernel
theorem d_DS_init_5 : decode b_DS_init 5 = .ok (.bipush 23, 2) := by decide +kernel
theorem d_DS_init_7 : decode b_DS_init 7 = .ok (.newarray .long, 2) := by decide +kernel
theorem d_DS_init_9 : decode b_DS_init 9 = .ok (.putfield 9, 3) := by decide +kernel
theorem d_DS_init_12 : decode b_DS_init 12 = .ok (.return_, 1) := by decide +kernel
theorem d_PL_init_0 : decode b_PL_init 0 = .ok (.aload_n 0, 1) := by decide +kernel
theorem d_PL_init_1 : decode b_PL_init 1 = .ok (.invokespecial 3, 3) := by decide +kernel
theorem d_PL_init_4 : decode b_PL_init 4 = .ok (.aload_n 0, 1) := by decide +kernel
theorem d_PL_init_5 : decode b_PL_init 5 = .ok (.new 9, 3) := by decide +kernel
theorem d_PL_init_8 : decode b_PL_init 8 = .ok (.dup, 1) := by decide +kernel
theorem d_PL_init_9 : decode b_PL_init 9 = .ok (.invokespecial 11, 3) := by decide +kernel
theorem d_PL_init_12 : decode b_PL_init 12 = .ok (.putfield 12, 3) := by decide +kernel
theorem d_PL_init_15 : decode b_PL_init 15 = .ok (.aload_n 0, 1) := by decide +kernel
theorem d_PL_init_16 : decode b_PL_init 16 = .ok (.new 9, 3) := by decide +kernel
theorem d_PL_init_19 : decode b_PL_init 19 = .ok (.dup, 1) := by decide +kernel
theorem d_PL_init_20 : decode b_PL_init 20 = .ok (.invokespecial 11, 3) := by decide +kernel
theorem d_PL_init_23 : decode b_PL_init 23 = .ok (.putfield 18, 3) := by decide +kernel
theorem d_PL_init_26 : decode b_PL_init 26 = .ok (.return_, 1) := by decide +kernel
theorem d_RR_init_0 : decode b_RR_init 0 = .ok (.aload_n 0, 1) := by decide +kernel
theorem d_RR_init_1 : decode b_RR_init 1 = .ok (.invokespecial 3, 3) := by decide +kernel
theorem d_RR_init_4 : decode b_RR_init 4 = .ok (.aload_n 0, 1) := by decide +kernel
theorem d_RR_init_5 : decode b_RR_init 5 = .ok (.new 9, 3) := by decide +kernel
theorem d_RR_init_8 : decode b_RR_init 8 = .ok (.dup, 1) := by decide +kernel
theorem d_RR_init_9 : decode b_RR_init 9 = .ok (.invokespecial 11, 3) := by decide +kernel
theorem d_RR_init_12 : decode b_RR_init 12 = .ok (.putfield 12, 3) := by decide +kernel
theorem d_RR_init_15 : decode b_RR_init 15 = .ok (.aload_n 0, 1) := by decide +kernel
theorem d_RR_init_16 : decode b_RR_init 16 = .ok (.iconst 4, 1) := by decide +kernel
theorem d_RR_init_17 : decode b_RR_init 17 = .ok (.anewarray 9, 3) := by decide +kernel
theorem d_RR_init_20 : decode b_RR_init 20 = .ok (.putfield 18, 3) := by decide +kernel
theorem d_RR_init_23 : decode b_RR_init 23 = .ok (.aload_n 0, 1) := by decide +kernel
theorem d_RR_init_24 : decode b_RR_init 24 = .ok (.iconst 4, 1) := by decide +kernel
theorem d_RR_init_25 : decode b_RR_init 25 = .ok (.anewarray 9, 3) := by decide +kernel
theorem d_RR_init_28 : decode b_RR_init 28 = .ok (.putfield 22, 3) := by decide +kernel
theorem d_RR_init_31 : decode b_RR_init 31 = .ok (.aload_n 0, 1) := by decide +kernel
theorem d_RR_init_32 : decode b_RR_init 32 = .ok (.iconst 4, 1) := by decide +kernel
theorem d_RR_init_33 : decode b_RR_init 33 = .ok (.newarray .boolean, 2) := by decide +kernel
theorem d_RR_init_35 : decode b_RR_init 35 = .ok (.putfield 25, 3) := by decide +kernel
theorem d_RR_init_38 : decode b_RR_init 38 = .ok (.aload_n 0, 1) := by decide +kernel
theorem d_RR_init_39 : decode b_RR_init 39 = .ok (.new 29, 3) := by decide +kernel
theorem d_RR_init_42 : decode b_RR_init 42 = .ok (.dup, 1) := by decide +kernel
theorem d_RR_init_43 : decode b_RR_init 43 = .ok (.aload_n 1, 1) := by decide +kernel
theorem d_RR_init_44 : decode b_RR_init 44 = .ok (.invokespecial 31, 3) := by decide +kernel
theorem d_RR_init_47 : decode b_RR_init 47 = .ok (.putfield 34, 3) := by decide +kernel
theorem d_RR_init_50 : decode b_RR_init 50 = .ok (.iconst 0, 1) := by decide +kernel
theorem d_RR_init_51 : decode b_RR_init 51 = .ok (.istore_n 2, 1) := by decide +kernel
theorem d_RR_init_52 : decode b_RR_init 52 = .ok (.iload_n 2, 1) := by decide +kernel
theorem d_RR_init_53 : decode b_RR_init 53 = .ok (.iconst 4, 1) := by decide +kernel
theorem d_RR_init_54 : decode b_RR_init 54 = .ok (.if_icmp .ge 35, 3) := by decide +kernel
theorem d_RR_init_57 : decode b_RR_init 57 = .ok (.aload_n 0, 1) := by decide +kernel
theorem d_RR_init_58 : decode b_RR_init 58 = .ok (.getfield 18, 3) := by decide +kernel
theorem d_RR_init_61 : decode b_RR_init 61 = .ok (.iload_n 2, 1) := by decide +kernel
theorem d_RR_init_62 : decode b_RR_init 62 = .ok (.new 9, 3) := by decide +kernel
theorem d_RR_init_65 : decode b_RR_init 65 = .ok (.dup, 1) := by decide +kernel
theorem d_RR_init_66 : decode b_RR_init 66 = .ok (.invokespecial 11, 3) := by decide +kernel
theorem d_RR_init_69 : decode b_RR_init 69 = .ok (.aastore, 1) := by decide +kernel
theorem d_RR_init_70 : decode b_RR_init 70 = .ok (.aload_n 0, 1) := by decide +kernel
theorem d_RR_init_71 : decode b_RR_init 71 = .ok (.getfield 22, 3) := by decide +kernel
theorem d_RR_init_74 : decode b_RR_init 74 = .ok (.iload_n 2, 1) := by decide +kernel
theorem d_RR_init_75 : decode b_RR_init 75 = .ok (.new 9, 3) := by decide +kernel
theorem d_RR_init_78 : decode b_RR_init 78 = .ok (.dup, 1) := by decide +kernel
theorem d_RR_init_79 : decode b_RR_init 79 = .ok (.invokespecial 11, 3) := by decide +kernel
theorem d_RR_init_82 : decode b_RR_init 82 = .ok (.aastore, 1) := by decide +kernel
theorem d_RR_init_83 : decode b_RR_init 83 = .ok (.iinc 2 1, 3) := by decide +kernel
theorem d_RR_init_86 : decode b_RR_init 86 = .ok (.goto (-34), 3) := by decide +kernel
theorem d_RR_init_89 : decode b_RR_init 89 = .ok (.return_, 1) := by decide +kernel
theorem d_SH_init_0 : decode b_SH_init 0 = .ok (.aload_n 0, 1) := by decide +kernel
theorem d_SH_init_1 : decode b_SH_init 1 = .ok (.invokespecial 3, 3) := by decide +kernel
theorem d_SH_init_4 : decode b_SH_init 4 = .ok (.aload_n 0, 1) := by decide +kernel
theorem d_SH_init_5 : decode b_SH_init 5 = .ok (.iconst 4, 1) := by decide +kernel
theorem d_SH_init_6 : decode b_SH_init 6 = .ok (.newarray .int, 2) := by decide +kernel
theorem d_SH_init_8 : decode b_SH_init 8 = .ok (.putfield 9, 3) := by decide +kernel
theorem d_SH_init_11 : decode b_SH_init 11 = .ok (.aload_n 0, 1) := by decide +kernel
theorem d_SH_init_12 : decode b_SH_init 12 = .ok (.iconst 4, 1) := by decide +kernel
theorem d_SH_init_13 : decode b_SH_init 13 = .ok (.newarray .int, 2) := by decide +kernel
theorem d_SH_init_15 : decode b_SH_init 15 = .ok (.putfield 15, 3) := by decide +kernel
theorem d_SH_init_18 : decode b_SH_init 18 = .ok (.iconst 0, 1) := by decide +kernel
theorem d_SH_init_19 : decode b_SH_init 19 = .ok (.istore_n 1, 1) := by decide +kernel
theorem d_SH_init_20 : decode b_SH_init 20 = .ok (.iload_n 1, 1) := by decide +kernel
theorem d_SH_init_21 : decode b_SH_init 21 = .ok (.iconst 4, 1) := by decide +kernel
theorem d_SH_init_22 : decode b_SH_init 22 = .ok (.if_icmp .ge 40, 3) := by decide +kernel
theorem d_SH_init_25 : decode b_SH_init 25 = .ok (.aload_n 0, 1) := by decide +kernel
theorem d_SH_init_26 : decode b_SH_init 26 = .ok (.getfield 9, 3) := by decide +kernel
theorem d_SH_init_29 : decode b_SH_init 29 = .ok (.iload_n 1, 1) := by decide +kernel
theorem d_SH_init_30 : decode b_SH_init 30 = .ok (.sipush 2000, 3) := by decide +kernel
theorem d_SH_init_33 : decode b_SH_init 33 = .ok (.iload_n 1, 1) := by decide +kernel
theorem d_SH_init_34 : decode b_SH_init 34 = .ok (.iadd, 1) := by decide +kernel
theorem d_SH_init_35 : decode b_SH_init 35 = .ok (.iconst 3, 1) := by decide +kernel
theorem d_SH_init_36 : decode b_SH_init 36 = .ok (.invokestatic 18, 3) := by decide +kernel
theorem d_SH_init_39 : decode b_SH_init 39 = .ok (.iastore, 1) := by decide +kernel
theorem d_SH_init_40 : decode b_SH_init 40 = .ok (.aload_n 0, 1) := by decide +kernel
theorem d_SH_init_41 : decode b_SH_init 41 = .ok (.getfield 15, 3) := by decide +kernel
theorem d_SH_init_44 : decode b_SH_init 44 = .ok (.iload_n 1, 1) := by decide +kernel
theorem d_SH_init_45 : decode b_SH_init 45 = .ok (.sipush 2000, 3) := by decide +kernel
theorem d_SH_init_48 : decode b_SH_init 48 = .ok (.iload_n 1, 1) := by decide +kernel
theorem d_SH_init_49 : decode b_SH_init 49 = .ok (.iadd, 1) := by decide +kernel
theorem d_SH_init_50 : decode b_SH_init 50 = .ok (.bipush 10, 2) := by decide +kernel
theorem d_SH_init_52 : decode b_SH_init 52 = .ok (.invokestatic 18, 3) := by decide +kernel
theorem d_SH_init_55 : decode b_SH_init 55 = .ok (.iastore, 1) := by decide +kernel
theorem d_SH_init_56 : decode b_SH_init 56 = .ok (.iinc 1 1, 3) := by decide +kernel
theorem d_SH_init_59 : decode b_SH_init 59 = .ok (.goto (-39), 3) := by decide +kernel
theorem d_SH_init_62 : decode b_SH_init 62 = .ok (.return_, 1) := by decide +kernel
