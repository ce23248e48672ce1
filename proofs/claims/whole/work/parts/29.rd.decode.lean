theorem d_RC_compile_0 : decode b_RC_compile 0 = .ok (.aload_n 0, 1) := by decide +kernel
theorem d_RC_compile_1 : decode b_RC_compile 1 = .ok (.iload_n 1, 1) := by decide +kernel
theorem d_RC_compile_2 : decode b_RC_compile 2 = .ok (.invokevirtual 51, 3) := by decide +kernel
theorem d_RC_compile_5 : decode b_RC_compile 5 = .ok (.aload_n 0, 1) := by decide +kernel
theorem d_RC_compile_6 : decode b_RC_compile 6 = .ok (.getfield 32, 3) := by decide +kernel
theorem d_RC_compile_9 : decode b_RC_compile 9 = .ok (.aload_n 0, 1) := by decide +kernel
theorem d_RC_compile_10 : decode b_RC_compile 10 = .ok (.getfield 9, 3) := by decide +kernel
theorem d_RC_compile_13 : decode b_RC_compile 13 = .ok (.aload_n 0, 1) := by decide +kernel
theorem d_RC_compile_14 : decode b_RC_compile 14 = .ok (.getfield 47, 3) := by decide +kernel
theorem d_RC_compile_17 : decode b_RC_compile 17 = .ok (.aload_n 0, 1) := by decide +kernel
theorem d_RC_compile_18 : decode b_RC_compile 18 = .ok (.getfield 43, 3) := by decide +kernel
theorem d_RC_compile_21 : decode b_RC_compile 21 = .ok (.invokevirtual 55, 3) := by decide +kernel
theorem d_RC_compile_24 : decode b_RC_compile 24 = .ok (.istore_n 2, 1) := by decide +kernel
theorem d_RC_compile_25 : decode b_RC_compile 25 = .ok (.aload_n 0, 1) := by decide +kernel
theorem d_RC_compile_26 : decode b_RC_compile 26 = .ok (.iconst 0, 1) := by decide +kernel
theorem d_RC_compile_27 : decode b_RC_compile 27 = .ok (.putfield 47, 3) := by decide +kernel
theorem d_RC_compile_30 : decode b_RC_compile 30 = .ok (.iload_n 2, 1) := by decide +kernel
theorem d_RC_compile_31 : decode b_RC_compile 31 = .ok (.ifCond .ne 13, 3) := by decide +kernel
theorem d_RC_compile_34 : decode b_RC_compile 34 = .ok (.iconst (-1), 1) := by decide +kernel
theorem d_RC_compile_35 : decode b_RC_compile 35 = .ok (.aload_n 0, 1) := by decide +kernel
theorem d_RC_compile_36 : decode b_RC_compile 36 = .ok (.getfield 32, 3) := by decide +kernel
theorem d_RC_compile_39 : decode b_RC_compile 39 = .ok (.getfield 59, 3) := by decide +kernel
theorem d_RC_compile_42 : decode b_RC_compile 42 = .ok (.isub, 1) := by decide +kernel
theorem d_RC_compile_43 : decode b_RC_compile 43 = .ok (.ireturn, 1) := by decide +kernel
theorem d_RC_compile_44 : decode b_RC_compile 44 = .ok (.aload_n 0, 1) := by decide +kernel
theorem d_RC_compile_45 : decode b_RC_compile 45 = .ok (.getfield 43, 3) := by decide +kernel
theorem d_RC_compile_48 : decode b_RC_compile 48 = .ok (.astore_n 3, 1) := by decide +kernel
theorem d_RC_compile_49 : decode b_RC_compile 49 = .ok (.aload_n 0, 1) := by decide +kernel
theorem d_RC_compile_50 : decode b_RC_compile 50 = .ok (.aload_n 0, 1) := by decide +kernel
theorem d_RC_compile_51 : decode b_RC_compile 51 = .ok (.getfield 38, 3) := by decide +kernel
theorem d_RC_compile_54 : decode b_RC_compile 54 = .ok (.iload_n 1, 1) := by decide +kernel
theorem d_RC_compile_55 : decode b_RC_compile 55 = .ok (.aaload, 1) := by decide +kernel
theorem d_RC_compile_56 : decode b_RC_compile 56 = .ok (.putfield 43, 3) := by decide +kernel
theorem d_RC_compile_59 : decode b_RC_compile 59 = .ok (.aload_n 0, 1) := by decide +kernel
theorem d_RC_compile_60 : decode b_RC_compile 60 = .ok (.getfield 38, 3) := by decide +kernel
theorem d_RC_compile_63 : decode b_RC_compile 63 = .ok (.iload_n 1, 1) := by decide +kernel
theorem d_RC_compile_64 : decode b_RC_compile 64 = .ok (.aload_n 3, 1) := by decide +kernel
theorem d_RC_compile_65 : decode b_RC_compile 65 = .ok (.aastore, 1) := by decide +kernel
theorem d_RC_compile_66 : decode b_RC_compile 66 = .ok (.aload_n 3, 1) := by decide +kernel
theorem d_RC_compile_67 : decode b_RC_compile 67 = .ok (.getfield 62, 3) := by decide +kernel
theorem d_RC_compile_70 : decode b_RC_compile 70 = .ok (.ireturn, 1) := by decide +kernel
theorem d_RC_total_0 : decode b_RC_total 0 = .ok (.aload_n 0, 1) := by decide +kernel
theorem d_RC_total_1 : decode b_RC_total 1 = .ok (.iload_n 1, 1) := by decide +kernel
theorem d_RC_total_2 : decode b_RC_total 2 = .ok (.invokevirtual 51, 3) := by decide +kernel
theorem d_RC_total_5 : decode b_RC_total 5 = .ok (.iload_n 2, 1) := by decide +kernel
theorem d_RC_total_6 : decode b_RC_total 6 = .ok (.ifCond .lt 15, 3) := by decide +kernel
theorem d_RC_total_9 : decode b_RC_total 9 = .ok (.iload_n 3, 1) := by decide +kernel
theorem d_RC_total_10 : decode b_RC_total 10 = .ok (.iload_n 2, 1) := by decide +kernel
theorem d_RC_total_11 : decode b_RC_total 11 = .ok (.if_icmp .lt 10, 3) := by decide +kernel
theorem d_RC_total_14 : decode b_RC_total 14 = .ok (.iload_n 3, 1) := by decide +kernel
theorem d_RC_total_15 : decode b_RC_total 15 = .ok (.sipush 1461, 3) := by decide +kernel
theorem d_RC_total_18 : decode b_RC_total 18 = .ok (.if_icmp .le 13, 3) := by decide +kernel
theorem d_RC_total_21 : decode b_RC_total 21 = .ok (.new 111, 3) := by decide +kernel
theorem d_RC_total_24 : decode b_RC_total 24 = .ok (.dup, 1) := by decide +kernel
theorem d_RC_total_25 : decode b_RC_total 25 = .ok (.ldc 113, 2) := by decide +kernel
theorem d_RC_total_27 : decode b_RC_total 27 = .ok (.invokespecial 115, 3) := by decide +kernel
theorem d_RC_total_30 : decode b_RC_total 30 = .ok (.athrow, 1) := by decide +kernel
theorem d_RC_total_31 : decode b_RC_total 31 = .ok (.aload_n 0, 1) := by decide +kernel
theorem d_RC_total_32 : decode b_RC_total 32 = .ok (.iload_n 1, 1) := by decide +kernel
theorem d_RC_total_33 : decode b_RC_total 33 = .ok (.invokevirtual 118, 3) := by decide +kernel
theorem d_RC_total_36 : decode b_RC_total 36 = .ok (.astore 5, 2) := by decide +kernel
theorem d_RC_total_38 : decode b_RC_total 38 = .ok (.iload 4, 2) := by decide +kernel
theorem d_RC_total_40 : decode b_RC_total 40 = .ok (.ifCond .lt 10, 3) := by decide +kernel
theorem d_RC_total_43 : decode b_RC_total 43 = .ok (.iload 4, 2) := by decide +kernel
theorem d_RC_total_45 : decode b_RC_total 45 = .ok (.bipush 9, 2) := by decide +kernel
theorem d_RC_total_47 : decode b_RC_total 47 = .ok (.if_icmp .le 5, 3) := by decide +kernel
theorem d_RC_total_50 : decode b_RC_total 50 = .ok (.iconst 0, 1) := by decide +kernel
theorem d_RC_total_51 : decode b_RC_total 51 = .ok (.ireturn, 1) := by decide +kernel
theorem d_RC_total_52 : decode b_RC_total 52 = .ok (.iconst 0, 1) := by decide +kernel
theorem d_RC_total_53 : decode b_RC_total 53 = .ok (.istore 6, 2) := by decide +kernel
theorem d_RC_total_55 : decode b_RC_total 55 = .ok (.iload_n 2, 1) := by decide +kernel
theorem d_RC_total_56 : decode b_RC_total 56 = .ok (.istore 7, 2) := by decide +kernel
theorem d_RC_total_58 : decode b_RC_total 58 = .ok (.iload 7, 2) := by decide +kernel
theorem d_RC_total_60 : decode b_RC_total 60 = .ok (.iload_n 3, 1) := by decide +kernel
theorem d_RC_total_61 : decode b_RC_total 61 = .ok (.if_icmp .ge 35, 3) := by decide +kernel
theorem d_RC_total_64 : decode b_RC_total 64 = .ok (.iload 6, 2) := by decide +kernel
theorem d_RC_total_66 : decode b_RC_total 66 = .ok (.aload_n 0, 1) := by decide +kernel
theorem d_RC_total_67 : decode b_RC_total 67 = .ok (.getfield 16, 3) := by decide +kernel
theorem d_RC_total_70 : decode b_RC_total 70 = .ok (.iload 7, 2) := by decide +kernel
theorem d_RC_total_72 : decode b_RC_total 72 = .ok (.aload 5, 2) := by decide +kernel
theorem d_RC_total_74 : decode b_RC_total 74 = .ok (.getfield 77, 3) := by decide +kernel
theorem d_RC_total_77 : decode b_RC_total 77 = .ok (.iload 7, 2) := by decide +kernel
theorem d_RC_total_79 : decode b_RC_total 79 = .ok (.iload 4, 2) := by decide +kernel
theorem d_RC_total_81 : decode b_RC_total 81 = .ok (.invokevirtual 94, 3) := by decide +kernel
theorem d_RC_total_84 : decode b_RC_total 84 = .ok (.invokevirtual 122, 3) := by decide +kernel
theorem d_RC_total_87 : decode b_RC_total 87 = .ok (.iadd, 1) := by decide +kernel
theorem d_RC_total_88 : decode b_RC_total 88 = .ok (.istore 6, 2) := by decide +kernel
theorem d_RC_total_90 : decode b_RC_total 90 = .ok (.iinc 7 1, 3) := by decide +kernel
theorem d_RC_total_93 : decode b_RC_total 93 = .ok (.goto (-35), 3) := by decide +kernel
theorem d_RC_total_96 : decode b_RC_total 96 = .ok (.iload 6, 2) := by decide +kernel
theorem d_RC_total_98 : decode b_RC_total 98 = .ok (.ireturn, 1) := by decide +kernel
theorem d_RC_compare_0 : decode b_RC_compare 0 = .ok (.aload_n 0, 1) := by decide +kernel
theorem d_RC_compare_1 : decode b_RC_compare 1 = .ok (.iload_n 1, 1) := by decide +kernel
theorem d_RC_compare_2 : decode b_RC_compare 2 = .ok (.invokevirtual 51, 3) := by decide +kernel
theorem d_RC_compare_5 : decode b_RC_compare 5 = .ok (.aload_n 0, 1) := by decide +kernel
theorem d_RC_compare_6 : decode b_RC_compare 6 = .ok (.iload_n 2, 1) := by decide +kernel
theorem d_RC_compare_7 : decode b_RC_compare 7 = .ok (.invokevirtual 51, 3) := by decide +kernel
theorem d_RC_compare_10 : decode b_RC_compare 10 = .ok (.aload_n 0, 1) := by decide +kernel
theorem d_RC_compare_11 : decode b_RC_compare 11 = .ok (.iload_n 1, 1) := by decide +kernel
theorem d_RC_compare_12 : decode b_RC_compare 12 = .ok (.invokevirtual 118, 3) := by decide +kernel
theorem d_RC_compare_15 : decode b_RC_compare 15 = .ok (.getfield 77, 3) := by decide +kernel
theorem d_RC_compare_18 : decode b_RC_compare 18 = .ok (.astore_n 3, 1) := by decide +kernel
theorem d_RC_compare_19 : decode b_RC_compare 19 = .ok (.aload_n 0, 1) := by decide +kernel
theorem d_RC_compare_20 : decode b_RC_compare 20 = .ok (.iload_n 2, 1) := by decide +kernel
theorem d_RC_compare_21 : decode b_RC_compare 21 = .ok (.invokevirtual 118, 3) := by decide +kernel
theorem d_RC_compare_24 : decode b_RC_compare 24 = .ok (.getfield 77, 3) := by decide +kernel
theorem d_RC_compare_27 : decode b_RC_compare 27 = .ok (.astore 4, 2) := by decide +kernel
theorem d_RC_compare_29 : decode b_RC_compare 29 = .ok (.iconst 0, 1) := by decide +kernel
theorem d_RC_compare_30 : decode b_RC_compare 30 = .ok (.istore 5, 2) := by decide +kernel
theorem d_RC_compare_32 : decode b_RC_compare 32 = .ok (.iload 5, 2) := by decide +kernel
theorem d_RC_compare_34 : decode b_RC_compare 34 = .ok (.sipush 1461, 3) := by decide +kernel
theorem d_RC_compare_37 : decode b_RC_compare 37 = .ok (.if_icmp .ge 48, 3) := by decide +kernel
theorem d_RC_compare_40 : decode b_RC_compare 40 = .ok (.aload_n 3, 1) := by decide +kernel
theorem d_RC_compare_41 : decode b_RC_compare 41 = .ok (.aload 4, 2) := by decide +kernel
theorem d_RC_compare_43 : decode b_RC_compare 43 = .ok (.iload 5, 2) := by decide +kernel
theorem d_RC_compare_45 : decode b_RC_compare 45 = .ok (.invokevirtual 151, 3) := by decide +kernel
theorem d_RC_compare_48 : decode b_RC_compare 48 = .ok (.aload_n 0, 1) := by decide +kernel
theorem d_RC_compare_49 : decode b_RC_compare 49 = .ok (.getfield 16, 3) := by decide +kernel
theorem d_RC_compare_52 : decode b_RC_compare 52 = .ok (.iload 5, 2) := by decide +kernel
theorem d_RC_compare_54 : decode b_RC_compare 54 = .ok (.invokevirtual 99, 3) := by decide +kernel
theorem d_RC_compare_57 : decode b_RC_compare 57 = .ok (.land, 1) := by decide +kernel
theorem d_RC_compare_58 : decode b_RC_compare 58 = .ok (.lstore 6, 2) := by decide +kernel
theorem d_RC_compare_60 : decode b_RC_compare 60 = .ok (.lload 6, 2) := by decide +kernel
theorem d_RC_compare_62 : decode b_RC_compare 62 = .ok (.lconst 0, 1) := by decide +kernel
theorem d_RC_compare_63 : decode b_RC_compare 63 = .ok (.lcmp, 1) := by decide +kernel
theorem d_RC_compare_64 : decode b_RC_compare 64 = .ok (.ifCond .eq 15, 3) := by decide +kernel
theorem d_RC_compare_67 : decode b_RC_compare 67 = .ok (.bipush 100, 2) := by decide +kernel
theorem d_RC_compare_69 : decode b_RC_compare 69 = .ok (.iload 5, 2) := by decide +kernel
theorem d_RC_compare_71 : decode b_RC_compare 71 = .ok (.imul, 1) := by decide +kernel
theorem d_RC_compare_72 : decode b_RC_compare 72 = .ok (.lload 6, 2) := by decide +kernel
theorem d_RC_compare_74 : decode b_RC_compare 74 = .ok (.invokestatic 103, 3) := by decide +kernel
theorem d_RC_compare_77 : decode b_RC_compare 77 = .ok (.iadd, 1) := by decide +kernel
theorem d_RC_compare_78 : decode b_RC_compare 78 = .ok (.ireturn, 1) := by decide +kernel
theorem d_RC_compare_79 : decode b_RC_compare 79 = .ok (.iinc 5 1, 3) := by decide +kernel
theorem d_RC_compare_82 : decode b_RC_compare 82 = .ok (.goto (-50), 3) := by decide +kernel
theorem d_RC_compare_85 : decode b_RC_compare 85 = .ok (.iconst (-1), 1) := by decide +kernel
theorem d_RC_compare_86 : decode b_RC_compare 86 = .ok (.ireturn, 1) := by decide +kernel
theorem d_RC_inside_0 : decode b_RC_inside 0 = .ok (.aload_n 0, 1) := by decide +kernel
theorem d_RC_inside_1 : decode b_RC_inside 1 = .ok (.iload_n 1, 1) := by decide +kernel
theorem d_RC_inside_2 : decode b_RC_inside 2 = .ok (.invokevirtual 51, 3) := by decide +kernel
theorem d_RC_inside_5 : decode b_RC_inside 5 = .ok (.aload_n 0, 1) := by decide +kernel
theorem d_RC_inside_6 : decode b_RC_inside 6 = .ok (.iload_n 2, 1) := by decide +kernel
theorem d_RC_inside_7 : decode b_RC_inside 7 = .ok (.invokevirtual 51, 3) := by decide +kernel
theorem d_RC_inside_10 : decode b_RC_inside 10 = .ok (.aload_n 0, 1) := by decide +kernel
theorem d_RC_inside_11 : decode b_RC_inside 11 = .ok (.iload_n 1, 1) := by decide +kernel
theorem d_RC_inside_12 : decode b_RC_inside 12 = .ok (.invokevirtual 118, 3) := by decide +kernel
theorem d_RC_inside_15 : decode b_RC_inside 15 = .ok (.getfield 77, 3) := by decide +kernel
theorem d_RC_inside_18 : decode b_RC_inside 18 = .ok (.astore_n 3, 1) := by decide +kernel
theorem d_RC_inside_19 : decode b_RC_inside 19 = .ok (.aload_n 0, 1) := by decide +kernel
theorem d_RC_inside_20 : decode b_RC_inside 20 = .ok (.iload_n 2, 1) := by decide +kernel
theorem d_RC_inside_21 : decode b_RC_inside 21 = .ok (.invokevirtual 118, 3) := by decide +kernel
theorem d_RC_inside_24 : decode b_RC_inside 24 = .ok (.getfield 77, 3) := by decide +kernel
theorem d_RC_inside_27 : decode b_RC_inside 27 = .ok (.astore 4, 2) := by decide +kernel
theorem d_RC_inside_29 : decode b_RC_inside 29 = .ok (.iconst 0, 1) := by decide +kernel
theorem d_RC_inside_30 : decode b_RC_inside 30 = .ok (.istore 5, 2) := by decide +kernel
theorem d_RC_inside_32 : decode b_RC_inside 32 = .ok (.iload 5, 2) := by decide +kernel
theorem d_RC_inside_34 : decode b_RC_inside 34 = .ok (.sipush 1461, 3) := by decide +kernel
theorem d_RC_inside_37 : decode b_RC_inside 37 = .ok (.if_icmp .ge 48, 3) := by decide +kernel
theorem d_RC_inside_40 : decode b_RC_inside 40 = .ok (.aload_n 3, 1) := by decide +kernel
theorem d_RC_inside_41 : decode b_RC_inside 41 = .ok (.iload 5, 2) := by decide +kernel
theorem d_RC_inside_43 : decode b_RC_inside 43 = .ok (.invokevirtual 155, 3) := by decide +kernel
theorem d_RC_inside_46 : decode b_RC_inside 46 = .ok (.aload 4, 2) := by decide +kernel
theorem d_RC_inside_48 : decode b_RC_inside 48 = .ok (.iload 5, 2) := by decide +kernel
theorem d_RC_inside_50 : decode b_RC_inside 50 = .ok (.invokevirtual 155, 3) := by decide +kernel
theorem d_RC_inside_53 : decode b_RC_inside 53 = .ok (.ldc2_w 97, 3) := by decide +kernel
theorem d_RC_inside_56 : decode b_RC_inside 56 = .ok (.lxor, 1) := by decide +kernel
theorem d_RC_inside_57 : decode b_RC_inside 57 = .ok (.land, 1) := by decide +kernel
theorem d_RC_inside_58 : decode b_RC_inside 58 = .ok (.lstore 6, 2) := by decide +kernel
theorem d_RC_inside_60 : decode b_RC_inside 60 = .ok (.lload 6, 2) := by decide +kernel
theorem d_RC_inside_62 : decode b_RC_inside 62 = .ok (.aload_n 0, 1) := by decide +kernel
theorem d_RC_inside_63 : decode b_RC_inside 63 = .ok (.getfield 16, 3) := by decide +kernel
theorem d_RC_inside_66 : decode b_RC_inside 66 = .ok (.iload 5, 2) := by decide +kernel
theorem d_RC_inside_68 : decode b_RC_inside 68 = .ok (.invokevirtual 99, 3) := by decide +kernel
theorem d_RC_inside_71 : decode b_RC_inside 71 = .ok (.land, 1) := by decide +kernel
theorem d_RC_inside_72 : decode b_RC_inside 72 = .ok (.lconst 0, 1) := by decide +kernel
theorem d_RC_inside_73 : decode b_RC_inside 73 = .ok (.lcmp, 1) := by decide +kernel
theorem d_RC_inside_74 : decode b_RC_inside 74 = .ok (.ifCond .eq 5, 3) := by decide +kernel
theorem d_RC_inside_77 : decode b_RC_inside 77 = .ok (.iconst 0, 1) := by decide +kernel
theorem d_RC_inside_78 : decode b_RC_inside 78 = .ok (.ireturn, 1) := by decide +kernel
theorem d_RC_inside_79 : decode b_RC_inside 79 = .ok (.iinc 5 1, 3) := by decide +kernel
theorem d_RC_inside_82 : decode b_RC_inside 82 = .ok (.goto (-50), 3) := by decide +kernel
theorem d_RC_inside_85 : decode b_RC_inside 85 = .ok (.iconst 1, 1) := by decide +kernel
theorem d_RC_inside_86 : decode b_RC_inside 86 = .ok (.ireturn, 1) := by decide +kernel
theorem d_RC_run_0 : decode b_RC_run 0 = .ok (.aload_n 0, 1) := by decide +kernel
theorem d_RC_run_1 : decode b_RC_run 1 = .ok (.iload_n 1, 1) := by decide +kernel
theorem d_RC_run_2 : decode b_RC_run 2 = .ok (.iload_n 2, 1) := by decide +kernel
theorem d_RC_run_3 : decode b_RC_run 3 = .ok (.iconst 0, 1) := by decide +kernel
theorem d_RC_run_4 : decode b_RC_run 4 = .ok (.invokevirtual 69, 3) := by decide +kernel
theorem d_RC_run_7 : decode b_RC_run 7 = .ok (.astore 5, 2) := by decide +kernel
theorem d_RC_run_9 : decode b_RC_run 9 = .ok (.aload_n 0, 1) := by decide +kernel
theorem d_RC_run_10 : decode b_RC_run 10 = .ok (.aload 5, 2) := by decide +kernel
theorem d_RC_run_12 : decode b_RC_run 12 = .ok (.iload_n 2, 1) := by decide +kernel
theorem d_RC_run_13 : decode b_RC_run 13 = .ok (.iload_n 3, 1) := by decide +kernel
theorem d_RC_run_14 : decode b_RC_run 14 = .ok (.invokevirtual 162, 3) := by decide +kernel
theorem d_RC_run_17 : decode b_RC_run 17 = .ok (.istore 6, 2) := by decide +kernel
theorem d_RC_run_19 : decode b_RC_run 19 = .ok (.iload 6, 2) := by decide +kernel
theorem d_RC_run_21 : decode b_RC_run 21 = .ok (.iconst (-1), 1) := by decide +kernel
theorem d_RC_run_22 : decode b_RC_run 22 = .ok (.if_icmp .ne 5, 3) := by decide +kernel
theorem d_RC_run_25 : decode b_RC_run 25 = .ok (.iconst (-1), 1) := by decide +kernel
theorem d_RC_run_26 : decode b_RC_run 26 = .ok (.ireturn, 1) := by decide +kernel
theorem d_RC_run_27 : decode b_RC_run 27 = .ok (.iload 4, 2) := by decide +kernel
theorem d_RC_run_29 : decode b_RC_run 29 = .ok (.tableswitch 52 0 2 #[27, 30, 40], 27) := by decide +kernel
theorem d_RC_run_56 : decode b_RC_run 56 = .ok (.iload 6, 2) := by decide +kernel
theorem d_RC_run_58 : decode b_RC_run 58 = .ok (.ireturn, 1) := by decide +kernel
theorem d_RC_run_59 : decode b_RC_run 59 = .ok (.aload_n 0, 1) := by decide +kernel
theorem d_RC_run_60 : decode b_RC_run 60 = .ok (.aload 5, 2) := by decide +kernel
theorem d_RC_run_62 : decode b_RC_run 62 = .ok (.iload_n 2, 1) := by decide +kernel
theorem d_RC_run_63 : decode b_RC_run 63 = .ok (.iload 6, 2) := by decide +kernel
theorem d_RC_run_65 : decode b_RC_run 65 = .ok (.invokevirtual 166, 3) := by decide +kernel
theorem d_RC_run_68 : decode b_RC_run 68 = .ok (.ireturn, 1) := by decide +kernel
theorem d_RC_run_69 : decode b_RC_run 69 = .ok (.aload 5, 2) := by decide +kernel
theorem d_RC_run_71 : decode b_RC_run 71 = .ok (.getfield 77, 3) := by decide +kernel
theorem d_RC_run_74 : decode b_RC_run 74 = .ok (.iload_n 2, 1) := by decide +kernel
theorem d_RC_run_75 : decode b_RC_run 75 = .ok (.iload 6, 2) := by decide +kernel
theorem d_RC_run_77 : decode b_RC_run 77 = .ok (.invokevirtual 81, 3) := by decide +kernel
theorem d_RC_run_80 : decode b_RC_run 80 = .ok (.ireturn, 1) := by decide +kernel
theorem d_RC_run_81 : decode b_RC_run 81 = .ok (.iconst (-1), 1) := by decide +kernel
theorem d_RC_run_82 : decode b_RC_run 82 = .ok (.ireturn, 1) := by decide +kernel
theorem d_RC_lastOfRun_0 : decode b_RC_lastOfRun 0 = .ok (.aload_n 1, 1) := by decide +kernel
theorem d_RC_lastOfRun_1 : decode b_RC_lastOfRun 1 = .ok (.getfield 77, 3) := by decide +kernel
theorem d_RC_lastOfRun_4 : decode b_RC_lastOfRun 4 = .ok (.iload_n 2, 1) := by decide +kernel
theorem d_RC_lastOfRun_5 : decode b_RC_lastOfRun 5 = .ok (.iload_n 3, 1) := by decide +kernel
theorem d_RC_lastOfRun_6 : decode b_RC_lastOfRun 6 = .ok (.invokevirtual 81, 3) := by decide +kernel
theorem d_RC_lastOfRun_9 : decode b_RC_lastOfRun 9 = .ok (.istore 4, 2) := by decide +kernel
theorem d_RC_lastOfRun_11 : decode b_RC_lastOfRun 11 = .ok (.iload_n 3, 1) := by decide +kernel
theorem d_RC_lastOfRun_12 : decode b_RC_lastOfRun 12 = .ok (.istore 5, 2) := by decide +kernel
theorem d_RC_lastOfRun_14 : decode b_RC_lastOfRun 14 = .ok (.iload_n 3, 1) := by decide +kernel
theorem d_RC_lastOfRun_15 : decode b_RC_lastOfRun 15 = .ok (.iconst 1, 1) := by decide +kernel
theorem d_RC_lastOfRun_16 : decode b_RC_lastOfRun 16 = .ok (.iadd, 1) := by decide +kernel
theorem d_RC_lastOfRun_17 : decode b_RC_lastOfRun 17 = .ok (.istore 6, 2) := by decide +kernel
theorem d_RC_lastOfRun_19 : decode b_RC_lastOfRun 19 = .ok (.iload 6, 2) := by decide +kernel
theorem d_RC_lastOfRun_21 : decode b_RC_lastOfRun 21 = .ok (.bipush 48, 2) := by decide +kernel
theorem d_RC_lastOfRun_23 : decode b_RC_lastOfRun 23 = .ok (.if_icmp .ge 47, 3) := by decide +kernel
theorem d_RC_lastOfRun_26 : decode b_RC_lastOfRun 26 = .ok (.aload_n 0, 1) := by decide +kernel
theorem d_RC_lastOfRun_27 : decode b_RC_lastOfRun 27 = .ok (.getfield 16, 3) := by decide +kernel
theorem d_RC_lastOfRun_30 : decode b_RC_lastOfRun 30 = .ok (.iload_n 2, 1) := by decide +kernel
theorem d_RC_lastOfRun_31 : decode b_RC_lastOfRun 31 = .ok (.iload 6, 2) := by decide +kernel
theorem d_RC_lastOfRun_33 : decode b_RC_lastOfRun 33 = .ok (.invokevirtual 73, 3) := by decide +kernel
theorem d_RC_lastOfRun_36 : decode b_RC_lastOfRun 36 = .ok (.ifCond .eq 6, 3) := by decide +kernel
theorem d_RC_lastOfRun_39 : decode b_RC_lastOfRun 39 = .ok (.goto 25, 3) := by decide +kernel
theorem d_RC_lastOfRun_42 : decode b_RC_lastOfRun 42 = .ok (.aload_n 1, 1) := by decide +kernel
theorem d_RC_lastOfRun_43 : decode b_RC_lastOfRun 43 = .ok (.getfield 77, 3) := by decide +kernel
theorem d_RC_lastOfRun_46 : decode b_RC_lastOfRun 46 = .ok (.iload_n 2, 1) := by decide +kernel
theorem d_RC_lastOfRun_47 : decode b_RC_lastOfRun 47 = .ok (.iload 6, 2) := by decide +kernel
theorem d_RC_lastOfRun_49 : decode b_RC_lastOfRun 49 = .ok (.invokevirtual 81, 3) := by decide +kernel
theorem d_RC_lastOfRun_52 : decode b_RC_lastOfRun 52 = .ok (.iload 4, 2) := by decide +kernel
theorem d_RC_lastOfRun_54 : decode b_RC_lastOfRun 54 = .ok (.if_icmp .eq 6, 3) := by decide +kernel
theorem d_RC_lastOfRun_57 : decode b_RC_lastOfRun 57 = .ok (.goto 13, 3) := by decide +kernel
theorem d_RC_lastOfRun_60 : decode b_RC_lastOfRun 60 = .ok (.iload 6, 2) := by decide +kernel
theorem d_RC_lastOfRun_62 : decode b_RC_lastOfRun 62 = .ok (.istore 5, 2) := by decide +kernel
theorem d_RC_lastOfRun_64 : decode b_RC_lastOfRun 64 = .ok (.iinc 6 1, 3) := by decide +kernel
theorem d_RC_lastOfRun_67 : decode b_RC_lastOfRun 67 = .ok (.goto (-48), 3) := by decide +kernel
theorem d_RC_lastOfRun_70 : decode b_RC_lastOfRun 70 = .ok (.iload 5, 2) := by decide +kernel
theorem d_RC_lastOfRun_72 : decode b_RC_lastOfRun 72 = .ok (.ireturn, 1) := by decide +kernel
