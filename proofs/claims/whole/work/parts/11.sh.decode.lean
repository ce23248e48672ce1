theorem d_CN_clear_0 : decode b_CN_clear 0 = .ok (.iconst 0, 1) := by decide +kernel
theorem d_CN_clear_1 : decode b_CN_clear 1 = .ok (.istore_n 1, 1) := by decide +kernel
theorem d_CN_clear_2 : decode b_CN_clear 2 = .ok (.iload_n 1, 1) := by decide +kernel
theorem d_CN_clear_3 : decode b_CN_clear 3 = .ok (.iconst 4, 1) := by decide +kernel
theorem d_CN_clear_4 : decode b_CN_clear 4 = .ok (.if_icmp .ge 19, 3) := by decide +kernel
theorem d_CN_clear_7 : decode b_CN_clear 7 = .ok (.aload_n 0, 1) := by decide +kernel
theorem d_CN_clear_8 : decode b_CN_clear 8 = .ok (.getfield 13, 3) := by decide +kernel
theorem d_CN_clear_11 : decode b_CN_clear 11 = .ok (.iload_n 1, 1) := by decide +kernel
theorem d_CN_clear_12 : decode b_CN_clear 12 = .ok (.aaload, 1) := by decide +kernel
theorem d_CN_clear_13 : decode b_CN_clear 13 = .ok (.lconst 0, 1) := by decide +kernel
theorem d_CN_clear_14 : decode b_CN_clear 14 = .ok (.invokestatic 16, 3) := by decide +kernel
theorem d_CN_clear_17 : decode b_CN_clear 17 = .ok (.iinc 1 1, 3) := by decide +kernel
theorem d_CN_clear_20 : decode b_CN_clear 20 = .ok (.goto (-18), 3) := by decide +kernel
theorem d_CN_clear_23 : decode b_CN_clear 23 = .ok (.return_, 1) := by decide +kernel
theorem d_CN_put_0 : decode b_CN_put 0 = .ok (.iconst 0, 1) := by decide +kernel
theorem d_CN_put_1 : decode b_CN_put 1 = .ok (.istore 5, 2) := by decide +kernel
theorem d_CN_put_3 : decode b_CN_put 3 = .ok (.iload 5, 2) := by decide +kernel
theorem d_CN_put_5 : decode b_CN_put 5 = .ok (.iconst 4, 1) := by decide +kernel
theorem d_CN_put_6 : decode b_CN_put 6 = .ok (.if_icmp .ge 52, 3) := by decide +kernel
theorem d_CN_put_9 : decode b_CN_put 9 = .ok (.iload 4, 2) := by decide +kernel
theorem d_CN_put_11 : decode b_CN_put 11 = .ok (.iload 5, 2) := by decide +kernel
theorem d_CN_put_13 : decode b_CN_put 13 = .ok (.ishr, 1) := by decide +kernel
theorem d_CN_put_14 : decode b_CN_put 14 = .ok (.iconst 1, 1) := by decide +kernel
theorem d_CN_put_15 : decode b_CN_put 15 = .ok (.iand, 1) := by decide +kernel
theorem d_CN_put_16 : decode b_CN_put 16 = .ok (.ifCond .eq 19, 3) := by decide +kernel
theorem d_CN_put_19 : decode b_CN_put 19 = .ok (.aload_n 0, 1) := by decide +kernel
theorem d_CN_put_20 : decode b_CN_put 20 = .ok (.getfield 13, 3) := by decide +kernel
theorem d_CN_put_23 : decode b_CN_put 23 = .ok (.iload 5, 2) := by decide +kernel
theorem d_CN_put_25 : decode b_CN_put 25 = .ok (.aaload, 1) := by decide +kernel
theorem d_CN_put_26 : decode b_CN_put 26 = .ok (.iload_n 1, 1) := by decide +kernel
theorem d_CN_put_27 : decode b_CN_put 27 = .ok (.dup2, 1) := by decide +kernel
theorem d_CN_put_28 : decode b_CN_put 28 = .ok (.laload, 1) := by decide +kernel
theorem d_CN_put_29 : decode b_CN_put 29 = .ok (.lload_n 2, 1) := by decide +kernel
theorem d_CN_put_30 : decode b_CN_put 30 = .ok (.lor, 1) := by decide +kernel
theorem d_CN_put_31 : decode b_CN_put 31 = .ok (.lastore, 1) := by decide +kernel
theorem d_CN_put_32 : decode b_CN_put 32 = .ok (.goto 20, 3) := by decide +kernel
theorem d_CN_put_35 : decode b_CN_put 35 = .ok (.aload_n 0, 1) := by decide +kernel
theorem d_CN_put_36 : decode b_CN_put 36 = .ok (.getfield 13, 3) := by decide +kernel
theorem d_CN_put_39 : decode b_CN_put 39 = .ok (.iload 5, 2) := by decide +kernel
theorem d_CN_put_41 : decode b_CN_put 41 = .ok (.aaload, 1) := by decide +kernel
theorem d_CN_put_42 : decode b_CN_put 42 = .ok (.iload_n 1, 1) := by decide +kernel
theorem d_CN_put_43 : decode b_CN_put 43 = .ok (.dup2, 1) := by decide +kernel
theorem d_CN_put_44 : decode b_CN_put 44 = .ok (.laload, 1) := by decide +kernel
theorem d_CN_put_45 : decode b_CN_put 45 = .ok (.lload_n 2, 1) := by decide +kernel
theorem d_CN_put_46 : decode b_CN_put 46 = .ok (.ldc2_w 22, 3) := by decide +kernel
theorem d_CN_put_49 : decode b_CN_put 49 = .ok (.lxor, 1) := by decide +kernel
theorem d_CN_put_50 : decode b_CN_put 50 = .ok (.land, 1) := by decide +kernel
theorem d_CN_put_51 : decode b_CN_put 51 = .ok (.lastore, 1) := by decide +kernel
theorem d_CN_put_52 : decode b_CN_put 52 = .ok (.iinc 5 1, 3) := by decide +kernel
theorem d_CN_put_55 : decode b_CN_put 55 = .ok (.goto (-52), 3) := by decide +kernel
theorem d_CN_put_58 : decode b_CN_put 58 = .ok (.return_, 1) := by decide +kernel
theorem d_DS_clear_0 : decode b_DS_clear 0 = .ok (.aload_n 0, 1) := by decide +kernel
theorem d_DS_clear_1 : decode b_DS_clear 1 = .ok (.getfield 9, 3) := by decide +kernel
theorem d_DS_clear_4 : decode b_DS_clear 4 = .ok (.lconst 0, 1) := by decide +kernel
theorem d_DS_clear_5 : decode b_DS_clear 5 = .ok (.invokestatic 15, 3) := by decide +kernel
theorem d_DS_clear_8 : decode b_DS_clear 8 = .ok (.return_, 1) := by decide +kernel
theorem d_DS_fill_0 : decode b_DS_fill 0 = .ok (.aload_n 0, 1) := by decide +kernel
theorem d_DS_fill_1 : decode b_DS_fill 1 = .ok (.getfield 9, 3) := by decide +kernel
theorem d_DS_fill_4 : decode b_DS_fill 4 = .ok (.ldc2_w 21, 3) := by decide +kernel
theorem d_DS_fill_7 : decode b_DS_fill 7 = .ok (.invokestatic 15, 3) := by decide +kernel
theorem d_DS_fill_10 : decode b_DS_fill 10 = .ok (.return_, 1) := by decide +kernel
theorem d_JA_fill_0 : decode b_JA_fill 0 = .ok (.iconst 0, 1) := by decide +kernel
theorem d_JA_fill_1 : decode b_JA_fill 1 = .ok (.istore_n 3, 1) := by decide +kernel
theorem d_JA_fill_2 : decode b_JA_fill 2 = .ok (.aload_n 0, 1) := by decide +kernel
theorem d_JA_fill_3 : decode b_JA_fill 3 = .ok (.arraylength, 1) := by decide +kernel
theorem d_JA_fill_4 : decode b_JA_fill 4 = .ok (.istore 4, 2) := by decide +kernel
theorem d_JA_fill_6 : decode b_JA_fill 6 = .ok (.iload_n 3, 1) := by decide +kernel
theorem d_JA_fill_7 : decode b_JA_fill 7 = .ok (.iload 4, 2) := by decide +kernel
theorem d_JA_fill_9 : decode b_JA_fill 9 = .ok (.if_icmp .ge 13, 3) := by decide +kernel
theorem d_JA_fill_12 : decode b_JA_fill 12 = .ok (.aload_n 0, 1) := by decide +kernel
theorem d_JA_fill_13 : decode b_JA_fill 13 = .ok (.iload_n 3, 1) := by decide +kernel
theorem d_JA_fill_14 : decode b_JA_fill 14 = .ok (.lload_n 1, 1) := by decide +kernel
theorem d_JA_fill_15 : decode b_JA_fill 15 = .ok (.lastore, 1) := by decide +kernel
theorem d_JA_fill_16 : decode b_JA_fill 16 = .ok (.iinc 3 1, 3) := by decide +kernel
theorem d_JA_fill_19 : decode b_JA_fill 19 = .ok (.goto (-13), 3) := by decide +kernel
theorem d_JA_fill_22 : decode b_JA_fill 22 = .ok (.return_, 1) := by decide +kernel
theorem d_JL_bitCount_0 : decode b_JL_bitCount 0 = .ok (.lload_n 0, 1) := by decide +kernel
theorem d_JL_bitCount_1 : decode b_JL_bitCount 1 = .ok (.lload_n 0, 1) := by decide +kernel
theorem d_JL_bitCount_2 : decode b_JL_bitCount 2 = .ok (.iconst 1, 1) := by decide +kernel
theorem d_JL_bitCount_3 : decode b_JL_bitCount 3 = .ok (.lushr, 1) := by decide +kernel
theorem d_JL_bitCount_4 : decode b_JL_bitCount 4 = .ok (.ldc2_w 314, 3) := by decide +kernel
theorem d_JL_bitCount_7 : decode b_JL_bitCount 7 = .ok (.land, 1) := by decide +kernel
theorem d_JL_bitCount_8 : decode b_JL_bitCount 8 = .ok (.lsub, 1) := by decide +kernel
theorem d_JL_bitCount_9 : decode b_JL_bitCount 9 = .ok (.lstore_n 0, 1) := by decide +kernel
theorem d_JL_bitCount_10 : decode b_JL_bitCount 10 = .ok (.lload_n 0, 1) := by decide +kernel
theorem d_JL_bitCount_11 : decode b_JL_bitCount 11 = .ok (.ldc2_w 316, 3) := by decide +kernel
theorem d_JL_bitCount_14 : decode b_JL_bitCount 14 = .ok (.land, 1) := by decide +kernel
theorem d_JL_bitCount_15 : decode b_JL_bitCount 15 = .ok (.lload_n 0, 1) := by decide +kernel
theorem d_JL_bitCount_16 : decode b_JL_bitCount 16 = .ok (.iconst 2, 1) := by decide +kernel
theorem d_JL_bitCount_17 : decode b_JL_bitCount 17 = .ok (.lushr, 1) := by decide +kernel
theorem d_JL_bitCount_18 : decode b_JL_bitCount 18 = .ok (.ldc2_w 316, 3) := by decide +kernel
theorem d_JL_bitCount_21 : decode b_JL_bitCount 21 = .ok (.land, 1) := by decide +kernel
theorem d_JL_bitCount_22 : decode b_JL_bitCount 22 = .ok (.ladd, 1) := by decide +kernel
theorem d_JL_bitCount_23 : decode b_JL_bitCount 23 = .ok (.lstore_n 0, 1) := by decide +kernel
theorem d_JL_bitCount_24 : decode b_JL_bitCount 24 = .ok (.lload_n 0, 1) := by decide +kernel
theorem d_JL_bitCount_25 : decode b_JL_bitCount 25 = .ok (.lload_n 0, 1) := by decide +kernel
theorem d_JL_bitCount_26 : decode b_JL_bitCount 26 = .ok (.iconst 4, 1) := by decide +kernel
theorem d_JL_bitCount_27 : decode b_JL_bitCount 27 = .ok (.lushr, 1) := by decide +kernel
theorem d_JL_bitCount_28 : decode b_JL_bitCount 28 = .ok (.ladd, 1) := by decide +kernel
theorem d_JL_bitCount_29 : decode b_JL_bitCount 29 = .ok (.ldc2_w 318, 3) := by decide +kernel
theorem d_JL_bitCount_32 : decode b_JL_bitCount 32 = .ok (.land, 1) := by decide +kernel
theorem d_JL_bitCount_33 : decode b_JL_bitCount 33 = .ok (.lstore_n 0, 1) := by decide +kernel
theorem d_JL_bitCount_34 : decode b_JL_bitCount 34 = .ok (.lload_n 0, 1) := by decide +kernel
theorem d_JL_bitCount_35 : decode b_JL_bitCount 35 = .ok (.lload_n 0, 1) := by decide +kernel
theorem d_JL_bitCount_36 : decode b_JL_bitCount 36 = .ok (.bipush 8, 2) := by decide +kernel
theorem d_JL_bitCount_38 : decode b_JL_bitCount 38 = .ok (.lushr, 1) := by decide +kernel
theorem d_JL_bitCount_39 : decode b_JL_bitCount 39 = .ok (.ladd, 1) := by decide +kernel
theorem d_JL_bitCount_40 : decode b_JL_bitCount 40 = .ok (.lstore_n 0, 1) := by decide +kernel
theorem d_JL_bitCount_41 : decode b_JL_bitCount 41 = .ok (.lload_n 0, 1) := by decide +kernel
theorem d_JL_bitCount_42 : decode b_JL_bitCount 42 = .ok (.lload_n 0, 1) := by decide +kernel
theorem d_JL_bitCount_43 : decode b_JL_bitCount 43 = .ok (.bipush 16, 2) := by decide +kernel
theorem d_JL_bitCount_45 : decode b_JL_bitCount 45 = .ok (.lushr, 1) := by decide +kernel
theorem d_JL_bitCount_46 : decode b_JL_bitCount 46 = .ok (.ladd, 1) := by decide +kernel
theorem d_JL_bitCount_47 : decode b_JL_bitCount 47 = .ok (.lstore_n 0, 1) := by decide +kernel
theorem d_JL_bitCount_48 : decode b_JL_bitCount 48 = .ok (.lload_n 0, 1) := by decide +kernel
theorem d_JL_bitCount_49 : decode b_JL_bitCount 49 = .ok (.lload_n 0, 1) := by decide +kernel
theorem d_JL_bitCount_50 : decode b_JL_bitCount 50 = .ok (.bipush 32, 2) := by decide +kernel
theorem d_JL_bitCount_52 : decode b_JL_bitCount 52 = .ok (.lushr, 1) := by decide +kernel
theorem d_JL_bitCount_53 : decode b_JL_bitCount 53 = .ok (.ladd, 1) := by decide +kernel
theorem d_JL_bitCount_54 : decode b_JL_bitCount 54 = .ok (.lstore_n 0, 1) := by decide +kernel
theorem d_JL_bitCount_55 : decode b_JL_bitCount 55 = .ok (.lload_n 0, 1) := by decide +kernel
theorem d_JL_bitCount_56 : decode b_JL_bitCount 56 = .ok (.l2i, 1) := by decide +kernel
theorem d_JL_bitCount_57 : decode b_JL_bitCount 57 = .ok (.bipush 127, 2) := by decide +kernel
theorem d_JL_bitCount_59 : decode b_JL_bitCount 59 = .ok (.iand, 1) := by decide +kernel
theorem d_JL_bitCount_60 : decode b_JL_bitCount 60 = .ok (.ireturn, 1) := by decide +kernel
theorem d_SH_timesOf_0 : decode b_SH_timesOf 0 = .ok (.lload_n 2, 1) := by decide +kernel
theorem d_SH_timesOf_1 : decode b_SH_timesOf 1 = .ok (.aload_n 0, 1) := by decide +kernel
theorem d_SH_timesOf_2 : decode b_SH_timesOf 2 = .ok (.iload_n 1, 1) := by decide +kernel
theorem d_SH_timesOf_3 : decode b_SH_timesOf 3 = .ok (.invokevirtual 43, 3) := by decide +kernel
theorem d_SH_timesOf_6 : decode b_SH_timesOf 6 = .ok (.land, 1) := by decide +kernel
theorem d_SH_timesOf_7 : decode b_SH_timesOf 7 = .ok (.invokestatic 57, 3) := by decide +kernel
theorem d_SH_timesOf_10 : decode b_SH_timesOf 10 = .ok (.istore 4, 2) := by decide +kernel
theorem d_SH_timesOf_12 : decode b_SH_timesOf 12 = .ok (.aload_n 0, 1) := by decide +kernel
theorem d_SH_timesOf_13 : decode b_SH_timesOf 13 = .ok (.iload_n 1, 1) := by decide +kernel
theorem d_SH_timesOf_14 : decode b_SH_timesOf 14 = .ok (.invokevirtual 52, 3) := by decide +kernel
theorem d_SH_timesOf_17 : decode b_SH_timesOf 17 = .ok (.ifCond .eq 17, 3) := by decide +kernel
theorem d_SH_timesOf_20 : decode b_SH_timesOf 20 = .ok (.iload 4, 2) := by decide +kernel
theorem d_SH_timesOf_22 : decode b_SH_timesOf 22 = .ok (.lload_n 2, 1) := by decide +kernel
theorem d_SH_timesOf_23 : decode b_SH_timesOf 23 = .ok (.ldc2_w 55, 3) := by decide +kernel
theorem d_SH_timesOf_26 : decode b_SH_timesOf 26 = .ok (.land, 1) := by decide +kernel
theorem d_SH_timesOf_27 : decode b_SH_timesOf 27 = .ok (.invokestatic 57, 3) := by decide +kernel
theorem d_SH_timesOf_30 : decode b_SH_timesOf 30 = .ok (.iadd, 1) := by decide +kernel
theorem d_SH_timesOf_31 : decode b_SH_timesOf 31 = .ok (.goto 5, 3) := by decide +kernel
theorem d_SH_timesOf_34 : decode b_SH_timesOf 34 = .ok (.iload 4, 2) := by decide +kernel
theorem d_SH_timesOf_36 : decode b_SH_timesOf 36 = .ok (.ireturn, 1) := by decide +kernel
theorem d_SH_tell_0 : decode b_SH_tell 0 = .ok (.iload_n 1, 1) := by decide +kernel
theorem d_SH_tell_1 : decode b_SH_tell 1 = .ok (.bipush 48, 2) := by decide +kernel
theorem d_SH_tell_3 : decode b_SH_tell 3 = .ok (.idiv, 1) := by decide +kernel
theorem d_SH_tell_4 : decode b_SH_tell 4 = .ok (.istore_n 2, 1) := by decide +kernel
theorem d_SH_tell_5 : decode b_SH_tell 5 = .ok (.iload_n 2, 1) := by decide +kernel
theorem d_SH_tell_6 : decode b_SH_tell 6 = .ok (.sipush 1460, 3) := by decide +kernel
theorem d_SH_tell_9 : decode b_SH_tell 9 = .ok (.if_icmp .ge 17, 3) := by decide +kernel
theorem d_SH_tell_12 : decode b_SH_tell 12 = .ok (.aload_n 0, 1) := by decide +kernel
theorem d_SH_tell_13 : decode b_SH_tell 13 = .ok (.iload_n 2, 1) := by decide +kernel
theorem d_SH_tell_14 : decode b_SH_tell 14 = .ok (.iconst 1, 1) := by decide +kernel
theorem d_SH_tell_15 : decode b_SH_tell 15 = .ok (.iadd, 1) := by decide +kernel
theorem d_SH_tell_16 : decode b_SH_tell 16 = .ok (.invokevirtual 63, 3) := by decide +kernel
theorem d_SH_tell_19 : decode b_SH_tell 19 = .ok (.iload_n 1, 1) := by decide +kernel
theorem d_SH_tell_20 : decode b_SH_tell 20 = .ok (.if_icmp .gt 6, 3) := by decide +kernel
theorem d_SH_tell_23 : decode b_SH_tell 23 = .ok (.iinc 2 1, 3) := by decide +kernel
theorem d_SH_tell_26 : decode b_SH_tell 26 = .ok (.iload_n 1, 1) := by decide +kernel
theorem d_SH_tell_27 : decode b_SH_tell 27 = .ok (.aload_n 0, 1) := by decide +kernel
theorem d_SH_tell_28 : decode b_SH_tell 28 = .ok (.iload_n 2, 1) := by decide +kernel
theorem d_SH_tell_29 : decode b_SH_tell 29 = .ok (.invokevirtual 63, 3) := by decide +kernel
theorem d_SH_tell_32 : decode b_SH_tell 32 = .ok (.isub, 1) := by decide +kernel
theorem d_SH_tell_33 : decode b_SH_tell 33 = .ok (.istore_n 3, 1) := by decide +kernel
theorem d_SH_tell_34 : decode b_SH_tell 34 = .ok (.aload_n 0, 1) := by decide +kernel
theorem d_SH_tell_35 : decode b_SH_tell 35 = .ok (.iload_n 2, 1) := by decide +kernel
theorem d_SH_tell_36 : decode b_SH_tell 36 = .ok (.invokevirtual 36, 3) := by decide +kernel
theorem d_SH_tell_39 : decode b_SH_tell 39 = .ok (.ifCond .eq 21, 3) := by decide +kernel
theorem d_SH_tell_42 : decode b_SH_tell 42 = .ok (.iload_n 3, 1) := by decide +kernel
theorem d_SH_tell_43 : decode b_SH_tell 43 = .ok (.iconst 4, 1) := by decide +kernel
theorem d_SH_tell_44 : decode b_SH_tell 44 = .ok (.if_icmp .lt 16, 3) := by decide +kernel
theorem d_SH_tell_47 : decode b_SH_tell 47 = .ok (.sipush 1000, 3) := by decide +kernel
theorem d_SH_tell_50 : decode b_SH_tell 50 = .ok (.iload_n 2, 1) := by decide +kernel
theorem d_SH_tell_51 : decode b_SH_tell 51 = .ok (.imul, 1) := by decide +kernel
theorem d_SH_tell_52 : decode b_SH_tell 52 = .ok (.bipush 10, 2) := by decide +kernel
theorem d_SH_tell_54 : decode b_SH_tell 54 = .ok (.iload_n 3, 1) := by decide +kernel
theorem d_SH_tell_55 : decode b_SH_tell 55 = .ok (.iconst 2, 1) := by decide +kernel
theorem d_SH_tell_56 : decode b_SH_tell 56 = .ok (.iadd, 1) := by decide +kernel
theorem d_SH_tell_57 : decode b_SH_tell 57 = .ok (.imul, 1) := by decide +kernel
theorem d_SH_tell_58 : decode b_SH_tell 58 = .ok (.iadd, 1) := by decide +kernel
theorem d_SH_tell_59 : decode b_SH_tell 59 = .ok (.ireturn, 1) := by decide +kernel
theorem d_SH_tell_60 : decode b_SH_tell 60 = .ok (.aload_n 0, 1) := by decide +kernel
theorem d_SH_tell_61 : decode b_SH_tell 61 = .ok (.iload_n 2, 1) := by decide +kernel
theorem d_SH_tell_62 : decode b_SH_tell 62 = .ok (.invokevirtual 52, 3) := by decide +kernel
theorem d_SH_tell_65 : decode b_SH_tell 65 = .ok (.ifCond .eq 8, 3) := by decide +kernel
theorem d_SH_tell_68 : decode b_SH_tell 68 = .ok (.iload_n 3, 1) := by decide +kernel
theorem d_SH_tell_69 : decode b_SH_tell 69 = .ok (.iconst 4, 1) := by decide +kernel
theorem d_SH_tell_70 : decode b_SH_tell 70 = .ok (.if_icmp .ge 14, 3) := by decide +kernel
theorem d_SH_tell_73 : decode b_SH_tell 73 = .ok (.sipush 1000, 3) := by decide +kernel
theorem d_SH_tell_76 : decode b_SH_tell 76 = .ok (.iload_n 2, 1) := by decide +kernel
theorem d_SH_tell_77 : decode b_SH_tell 77 = .ok (.imul, 1) := by decide +kernel
theorem d_SH_tell_78 : decode b_SH_tell 78 = .ok (.bipush 10, 2) := by decide +kernel
theorem d_SH_tell_80 : decode b_SH_tell 80 = .ok (.iload_n 3, 1) := by decide +kernel
theorem d_SH_tell_81 : decode b_SH_tell 81 = .ok (.imul, 1) := by decide +kernel
theorem d_SH_tell_82 : decode b_SH_tell 82 = .ok (.iadd, 1) := by decide +kernel
theorem d_SH_tell_83 : decode b_SH_tell 83 = .ok (.ireturn, 1) := by decide +kernel
theorem d_SH_tell_84 : decode b_SH_tell 84 = .ok (.iload_n 3, 1) := by decide +kernel
theorem d_SH_tell_85 : decode b_SH_tell 85 = .ok (.bipush 6, 2) := by decide +kernel
theorem d_SH_tell_87 : decode b_SH_tell 87 = .ok (.if_icmp .ge 16, 3) := by decide +kernel
theorem d_SH_tell_90 : decode b_SH_tell 90 = .ok (.sipush 1000, 3) := by decide +kernel
theorem d_SH_tell_93 : decode b_SH_tell 93 = .ok (.iload_n 2, 1) := by decide +kernel
theorem d_SH_tell_94 : decode b_SH_tell 94 = .ok (.imul, 1) := by decide +kernel
theorem d_SH_tell_95 : decode b_SH_tell 95 = .ok (.bipush 10, 2) := by decide +kernel
theorem d_SH_tell_97 : decode b_SH_tell 97 = .ok (.iload_n 3, 1) := by decide +kernel
theorem d_SH_tell_98 : decode b_SH_tell 98 = .ok (.imul, 1) := by decide +kernel
theorem d_SH_tell_99 : decode b_SH_tell 99 = .ok (.iadd, 1) := by decide +kernel
theorem d_SH_tell_100 : decode b_SH_tell 100 = .ok (.iconst 1, 1) := by decide +kernel
theorem d_SH_tell_101 : decode b_SH_tell 101 = .ok (.iadd, 1) := by decide +kernel
theorem d_SH_tell_102 : decode b_SH_tell 102 = .ok (.ireturn, 1) := by decide +kernel
theorem d_SH_tell_103 : decode b_SH_tell 103 = .ok (.sipush 1000, 3) := by decide +kernel
theorem d_SH_tell_106 : decode b_SH_tell 106 = .ok (.iload_n 2, 1) := by decide +kernel
theorem d_SH_tell_107 : decode b_SH_tell 107 = .ok (.imul, 1) := by decide +kernel
theorem d_SH_tell_108 : decode b_SH_tell 108 = .ok (.bipush 10, 2) := by decide +kernel
theorem d_SH_tell_110 : decode b_SH_tell 110 = .ok (.iload_n 3, 1) := by decide +kernel
theorem d_SH_tell_111 : decode b_SH_tell 111 = .ok (.iconst 2, 1) := by decide +kernel
theorem d_SH_tell_112 : decode b_SH_tell 112 = .ok (.isub, 1) := by decide +kernel
theorem d_SH_tell_113 : decode b_SH_tell 113 = .ok (.imul, 1) := by decide +kernel
theorem d_SH_tell_114 : decode b_SH_tell 114 = .ok (.iadd, 1) := by decide +kernel
theorem d_SH_tell_115 : decode b_SH_tell 115 = .ok (.aload_n 0, 1) := by decide +kernel
theorem d_SH_tell_116 : decode b_SH_tell 116 = .ok (.iload_n 3, 1) := by decide +kernel
theorem d_SH_tell_117 : decode b_SH_tell 117 = .ok (.iconst 2, 1) := by decide +kernel
theorem d_SH_tell_118 : decode b_SH_tell 118 = .ok (.isub, 1) := by decide +kernel
theorem d_SH_tell_119 : decode b_SH_tell 119 = .ok (.invokevirtual 32, 3) := by decide +kernel
theorem d_SH_tell_122 : decode b_SH_tell 122 = .ok (.ifCond .eq 7, 3) := by decide +kernel
theorem d_SH_tell_125 : decode b_SH_tell 125 = .ok (.iconst 2, 1) := by decide +kernel
theorem d_SH_tell_126 : decode b_SH_tell 126 = .ok (.goto 4, 3) := by decide +kernel
theorem d_SH_tell_129 : decode b_SH_tell 129 = .ok (.iconst 0, 1) := by decide +kernel
theorem d_SH_tell_130 : decode b_SH_tell 130 = .ok (.iadd, 1) := by decide +kernel
theorem d_SH_tell_131 : decode b_SH_tell 131 = .ok (.ireturn, 1) := by decide +kernel
