theorem d_LW_compile_0 : decode b_LW_compile 0 = .ok (.aload_n 2, 1) := by decide +kernel
theorem d_LW_compile_1 : decode b_LW_compile 1 = .ok (.iconst 0, 1) := by decide +kernel
theorem d_LW_compile_2 : decode b_LW_compile 2 = .ok (.aload_n 0, 1) := by decide +kernel
theorem d_LW_compile_3 : decode b_LW_compile 3 = .ok (.iload_n 1, 1) := by decide +kernel
theorem d_LW_compile_4 : decode b_LW_compile 4 = .ok (.invokevirtual 7, 3) := by decide +kernel
theorem d_LW_compile_7 : decode b_LW_compile 7 = .ok (.i2l, 1) := by decide +kernel
theorem d_LW_compile_8 : decode b_LW_compile 8 = .ok (.lastore, 1) := by decide +kernel
theorem d_LW_compile_9 : decode b_LW_compile 9 = .ok (.goto 6, 3) := by decide +kernel
theorem d_LW_compile_12 : decode b_LW_compile 12 = .ok (.astore_n 3, 1) := by decide +kernel
theorem d_LW_compile_13 : decode b_LW_compile 13 = .ok (.iconst 1, 1) := by decide +kernel
theorem d_LW_compile_14 : decode b_LW_compile 14 = .ok (.ireturn, 1) := by decide +kernel
theorem d_LW_compile_15 : decode b_LW_compile 15 = .ok (.iconst 0, 1) := by decide +kernel
theorem d_LW_compile_16 : decode b_LW_compile 16 = .ok (.ireturn, 1) := by decide +kernel
theorem d_LW_at_0 : decode b_LW_at 0 = .ok (.aload 4, 2) := by decide +kernel
theorem d_LW_at_2 : decode b_LW_at 2 = .ok (.iconst 0, 1) := by decide +kernel
theorem d_LW_at_3 : decode b_LW_at 3 = .ok (.aload_n 0, 1) := by decide +kernel
theorem d_LW_at_4 : decode b_LW_at 4 = .ok (.iload_n 1, 1) := by decide +kernel
theorem d_LW_at_5 : decode b_LW_at 5 = .ok (.iload_n 2, 1) := by decide +kernel
theorem d_LW_at_6 : decode b_LW_at 6 = .ok (.iload_n 3, 1) := by decide +kernel
theorem d_LW_at_7 : decode b_LW_at 7 = .ok (.invokevirtual 15, 3) := by decide +kernel
theorem d_LW_at_10 : decode b_LW_at 10 = .ok (.i2l, 1) := by decide +kernel
theorem d_LW_at_11 : decode b_LW_at 11 = .ok (.lastore, 1) := by decide +kernel
theorem d_LW_at_12 : decode b_LW_at 12 = .ok (.goto 11, 3) := by decide +kernel
theorem d_LW_at_15 : decode b_LW_at 15 = .ok (.astore 5, 2) := by decide +kernel
theorem d_LW_at_17 : decode b_LW_at 17 = .ok (.iconst 1, 1) := by decide +kernel
theorem d_LW_at_18 : decode b_LW_at 18 = .ok (.ireturn, 1) := by decide +kernel
theorem d_LW_at_19 : decode b_LW_at 19 = .ok (.astore 5, 2) := by decide +kernel
theorem d_LW_at_21 : decode b_LW_at 21 = .ok (.iconst 2, 1) := by decide +kernel
theorem d_LW_at_22 : decode b_LW_at 22 = .ok (.ireturn, 1) := by decide +kernel
theorem d_LW_at_23 : decode b_LW_at 23 = .ok (.iconst 0, 1) := by decide +kernel
theorem d_LW_at_24 : decode b_LW_at 24 = .ok (.ireturn, 1) := by decide +kernel
theorem d_LW_which_0 : decode b_LW_which 0 = .ok (.aload 4, 2) := by decide +kernel
theorem d_LW_which_2 : decode b_LW_which 2 = .ok (.iconst 0, 1) := by decide +kernel
theorem d_LW_which_3 : decode b_LW_which 3 = .ok (.aload_n 0, 1) := by decide +kernel
theorem d_LW_which_4 : decode b_LW_which 4 = .ok (.iload_n 1, 1) := by decide +kernel
theorem d_LW_which_5 : decode b_LW_which 5 = .ok (.iload_n 2, 1) := by decide +kernel
theorem d_LW_which_6 : decode b_LW_which 6 = .ok (.iload_n 3, 1) := by decide +kernel
theorem d_LW_which_7 : decode b_LW_which 7 = .ok (.invokevirtual 21, 3) := by decide +kernel
theorem d_LW_which_10 : decode b_LW_which 10 = .ok (.i2l, 1) := by decide +kernel
theorem d_LW_which_11 : decode b_LW_which 11 = .ok (.lastore, 1) := by decide +kernel
theorem d_LW_which_12 : decode b_LW_which 12 = .ok (.goto 11, 3) := by decide +kernel
theorem d_LW_which_15 : decode b_LW_which 15 = .ok (.astore 5, 2) := by decide +kernel
theorem d_LW_which_17 : decode b_LW_which 17 = .ok (.iconst 1, 1) := by decide +kernel
theorem d_LW_which_18 : decode b_LW_which 18 = .ok (.ireturn, 1) := by decide +kernel
theorem d_LW_which_19 : decode b_LW_which 19 = .ok (.astore 5, 2) := by decide +kernel
theorem d_LW_which_21 : decode b_LW_which 21 = .ok (.iconst 2, 1) := by decide +kernel
theorem d_LW_which_22 : decode b_LW_which 22 = .ok (.ireturn, 1) := by decide +kernel
theorem d_LW_which_23 : decode b_LW_which 23 = .ok (.iconst 0, 1) := by decide +kernel
theorem d_LW_which_24 : decode b_LW_which 24 = .ok (.ireturn, 1) := by decide +kernel
theorem d_LW_next_0 : decode b_LW_next 0 = .ok (.aload 4, 2) := by decide +kernel
theorem d_LW_next_2 : decode b_LW_next 2 = .ok (.iconst 0, 1) := by decide +kernel
theorem d_LW_next_3 : decode b_LW_next 3 = .ok (.aload_n 0, 1) := by decide +kernel
theorem d_LW_next_4 : decode b_LW_next 4 = .ok (.iload_n 1, 1) := by decide +kernel
theorem d_LW_next_5 : decode b_LW_next 5 = .ok (.iload_n 2, 1) := by decide +kernel
theorem d_LW_next_6 : decode b_LW_next 6 = .ok (.iload_n 3, 1) := by decide +kernel
theorem d_LW_next_7 : decode b_LW_next 7 = .ok (.invokevirtual 24, 3) := by decide +kernel
theorem d_LW_next_10 : decode b_LW_next 10 = .ok (.i2l, 1) := by decide +kernel
theorem d_LW_next_11 : decode b_LW_next 11 = .ok (.lastore, 1) := by decide +kernel
theorem d_LW_next_12 : decode b_LW_next 12 = .ok (.goto 11, 3) := by decide +kernel
theorem d_LW_next_15 : decode b_LW_next 15 = .ok (.astore 5, 2) := by decide +kernel
theorem d_LW_next_17 : decode b_LW_next 17 = .ok (.iconst 1, 1) := by decide +kernel
theorem d_LW_next_18 : decode b_LW_next 18 = .ok (.ireturn, 1) := by decide +kernel
theorem d_LW_next_19 : decode b_LW_next 19 = .ok (.astore 5, 2) := by decide +kernel
theorem d_LW_next_21 : decode b_LW_next 21 = .ok (.iconst 2, 1) := by decide +kernel
theorem d_LW_next_22 : decode b_LW_next 22 = .ok (.ireturn, 1) := by decide +kernel
theorem d_LW_next_23 : decode b_LW_next 23 = .ok (.iconst 0, 1) := by decide +kernel
theorem d_LW_next_24 : decode b_LW_next 24 = .ok (.ireturn, 1) := by decide +kernel
theorem d_LW_total_0 : decode b_LW_total 0 = .ok (.aload 5, 2) := by decide +kernel
theorem d_LW_total_2 : decode b_LW_total 2 = .ok (.iconst 0, 1) := by decide +kernel
theorem d_LW_total_3 : decode b_LW_total 3 = .ok (.aload_n 0, 1) := by decide +kernel
theorem d_LW_total_4 : decode b_LW_total 4 = .ok (.iload_n 1, 1) := by decide +kernel
theorem d_LW_total_5 : decode b_LW_total 5 = .ok (.iload_n 2, 1) := by decide +kernel
theorem d_LW_total_6 : decode b_LW_total 6 = .ok (.iload_n 3, 1) := by decide +kernel
theorem d_LW_total_7 : decode b_LW_total 7 = .ok (.iload 4, 2) := by decide +kernel
theorem d_LW_total_9 : decode b_LW_total 9 = .ok (.invokevirtual 27, 3) := by decide +kernel
theorem d_LW_total_12 : decode b_LW_total 12 = .ok (.i2l, 1) := by decide +kernel
theorem d_LW_total_13 : decode b_LW_total 13 = .ok (.lastore, 1) := by decide +kernel
theorem d_LW_total_14 : decode b_LW_total 14 = .ok (.goto 11, 3) := by decide +kernel
theorem d_LW_total_17 : decode b_LW_total 17 = .ok (.astore 6, 2) := by decide +kernel
theorem d_LW_total_19 : decode b_LW_total 19 = .ok (.iconst 1, 1) := by decide +kernel
theorem d_LW_total_20 : decode b_LW_total 20 = .ok (.ireturn, 1) := by decide +kernel
theorem d_LW_total_21 : decode b_LW_total 21 = .ok (.astore 6, 2) := by decide +kernel
theorem d_LW_total_23 : decode b_LW_total 23 = .ok (.iconst 2, 1) := by decide +kernel
theorem d_LW_total_24 : decode b_LW_total 24 = .ok (.ireturn, 1) := by decide +kernel
theorem d_LW_total_25 : decode b_LW_total 25 = .ok (.iconst 0, 1) := by decide +kernel
theorem d_LW_total_26 : decode b_LW_total 26 = .ok (.ireturn, 1) := by decide +kernel
theorem d_LW_elapsed_0 : decode b_LW_elapsed 0 = .ok (.aload 4, 2) := by decide +kernel
theorem d_LW_elapsed_2 : decode b_LW_elapsed 2 = .ok (.iconst 0, 1) := by decide +kernel
theorem d_LW_elapsed_3 : decode b_LW_elapsed 3 = .ok (.aload_n 0, 1) := by decide +kernel
theorem d_LW_elapsed_4 : decode b_LW_elapsed 4 = .ok (.iload_n 1, 1) := by decide +kernel
theorem d_LW_elapsed_5 : decode b_LW_elapsed 5 = .ok (.iload_n 2, 1) := by decide +kernel
theorem d_LW_elapsed_6 : decode b_LW_elapsed 6 = .ok (.iload_n 3, 1) := by decide +kernel
theorem d_LW_elapsed_7 : decode b_LW_elapsed 7 = .ok (.invokevirtual 31, 3) := by decide +kernel
theorem d_LW_elapsed_10 : decode b_LW_elapsed 10 = .ok (.i2l, 1) := by decide +kernel
theorem d_LW_elapsed_11 : decode b_LW_elapsed 11 = .ok (.lastore, 1) := by decide +kernel
theorem d_LW_elapsed_12 : decode b_LW_elapsed 12 = .ok (.goto 7, 3) := by decide +kernel
theorem d_LW_elapsed_15 : decode b_LW_elapsed 15 = .ok (.astore 5, 2) := by decide +kernel
theorem d_LW_elapsed_17 : decode b_LW_elapsed 17 = .ok (.iconst 1, 1) := by decide +kernel
theorem d_LW_elapsed_18 : decode b_LW_elapsed 18 = .ok (.ireturn, 1) := by decide +kernel
theorem d_LW_elapsed_19 : decode b_LW_elapsed 19 = .ok (.iconst 0, 1) := by decide +kernel
theorem d_LW_elapsed_20 : decode b_LW_elapsed 20 = .ok (.ireturn, 1) := by decide +kernel
theorem d_LW_compare_0 : decode b_LW_compare 0 = .ok (.aload_n 3, 1) := by decide +kernel
theorem d_LW_compare_1 : decode b_LW_compare 1 = .ok (.iconst 0, 1) := by decide +kernel
theorem d_LW_compare_2 : decode b_LW_compare 2 = .ok (.aload_n 0, 1) := by decide +kernel
theorem d_LW_compare_3 : decode b_LW_compare 3 = .ok (.iload_n 1, 1) := by decide +kernel
theorem d_LW_compare_4 : decode b_LW_compare 4 = .ok (.iload_n 2, 1) := by decide +kernel
theorem d_LW_compare_5 : decode b_LW_compare 5 = .ok (.invokevirtual 35, 3) := by decide +kernel
theorem d_LW_compare_8 : decode b_LW_compare 8 = .ok (.i2l, 1) := by decide +kernel
theorem d_LW_compare_9 : decode b_LW_compare 9 = .ok (.lastore, 1) := by decide +kernel
theorem d_LW_compare_10 : decode b_LW_compare 10 = .ok (.goto 11, 3) := by decide +kernel
theorem d_LW_compare_13 : decode b_LW_compare 13 = .ok (.astore 4, 2) := by decide +kernel
theorem d_LW_compare_15 : decode b_LW_compare 15 = .ok (.iconst 1, 1) := by decide +kernel
theorem d_LW_compare_16 : decode b_LW_compare 16 = .ok (.ireturn, 1) := by decide +kernel
theorem d_LW_compare_17 : decode b_LW_compare 17 = .ok (.astore 4, 2) := by decide +kernel
theorem d_LW_compare_19 : decode b_LW_compare 19 = .ok (.iconst 2, 1) := by decide +kernel
theorem d_LW_compare_20 : decode b_LW_compare 20 = .ok (.ireturn, 1) := by decide +kernel
theorem d_LW_compare_21 : decode b_LW_compare 21 = .ok (.iconst 0, 1) := by decide +kernel
theorem d_LW_compare_22 : decode b_LW_compare 22 = .ok (.ireturn, 1) := by decide +kernel
theorem d_LW_inside_0 : decode b_LW_inside 0 = .ok (.aload_n 3, 1) := by decide +kernel
theorem d_LW_inside_1 : decode b_LW_inside 1 = .ok (.iconst 0, 1) := by decide +kernel
theorem d_LW_inside_2 : decode b_LW_inside 2 = .ok (.aload_n 0, 1) := by decide +kernel
theorem d_LW_inside_3 : decode b_LW_inside 3 = .ok (.iload_n 1, 1) := by decide +kernel
theorem d_LW_inside_4 : decode b_LW_inside 4 = .ok (.iload_n 2, 1) := by decide +kernel
theorem d_LW_inside_5 : decode b_LW_inside 5 = .ok (.invokevirtual 39, 3) := by decide +kernel
theorem d_LW_inside_8 : decode b_LW_inside 8 = .ok (.ifCond .eq 7, 3) := by decide +kernel
theorem d_LW_inside_11 : decode b_LW_inside 11 = .ok (.lconst 1, 1) := by decide +kernel
theorem d_LW_inside_12 : decode b_LW_inside 12 = .ok (.goto 4, 3) := by decide +kernel
theorem d_LW_inside_15 : decode b_LW_inside 15 = .ok (.lconst 0, 1) := by decide +kernel
theorem d_LW_inside_16 : decode b_LW_inside 16 = .ok (.lastore, 1) := by decide +kernel
theorem d_LW_inside_17 : decode b_LW_inside 17 = .ok (.goto 11, 3) := by decide +kernel
theorem d_LW_inside_20 : decode b_LW_inside 20 = .ok (.astore 4, 2) := by decide +kernel
theorem d_LW_inside_22 : decode b_LW_inside 22 = .ok (.iconst 1, 1) := by decide +kernel
theorem d_LW_inside_23 : decode b_LW_inside 23 = .ok (.ireturn, 1) := by decide +kernel
theorem d_LW_inside_24 : decode b_LW_inside 24 = .ok (.astore 4, 2) := by decide +kernel
theorem d_LW_inside_26 : decode b_LW_inside 26 = .ok (.iconst 2, 1) := by decide +kernel
theorem d_LW_inside_27 : decode b_LW_inside 27 = .ok (.ireturn, 1) := by decide +kernel
theorem d_LW_inside_28 : decode b_LW_inside 28 = .ok (.iconst 0, 1) := by decide +kernel
theorem d_LW_inside_29 : decode b_LW_inside 29 = .ok (.ireturn, 1) := by decide +kernel
theorem d_LW_dead_0 : decode b_LW_dead 0 = .ok (.aload_n 3, 1) := by decide +kernel
theorem d_LW_dead_1 : decode b_LW_dead 1 = .ok (.iconst 0, 1) := by decide +kernel
theorem d_LW_dead_2 : decode b_LW_dead 2 = .ok (.aload_n 0, 1) := by decide +kernel
theorem d_LW_dead_3 : decode b_LW_dead 3 = .ok (.iload_n 1, 1) := by decide +kernel
theorem d_LW_dead_4 : decode b_LW_dead 4 = .ok (.iload_n 2, 1) := by decide +kernel
theorem d_LW_dead_5 : decode b_LW_dead 5 = .ok (.invokevirtual 43, 3) := by decide +kernel
theorem d_LW_dead_8 : decode b_LW_dead 8 = .ok (.i2l, 1) := by decide +kernel
theorem d_LW_dead_9 : decode b_LW_dead 9 = .ok (.lastore, 1) := by decide +kernel
theorem d_LW_dead_10 : decode b_LW_dead 10 = .ok (.goto 11, 3) := by decide +kernel
theorem d_LW_dead_13 : decode b_LW_dead 13 = .ok (.astore 4, 2) := by decide +kernel
theorem d_LW_dead_15 : decode b_LW_dead 15 = .ok (.iconst 1, 1) := by decide +kernel
theorem d_LW_dead_16 : decode b_LW_dead 16 = .ok (.ireturn, 1) := by decide +kernel
theorem d_LW_dead_17 : decode b_LW_dead 17 = .ok (.astore 4, 2) := by decide +kernel
theorem d_LW_dead_19 : decode b_LW_dead 19 = .ok (.iconst 2, 1) := by decide +kernel
theorem d_LW_dead_20 : decode b_LW_dead 20 = .ok (.ireturn, 1) := by decide +kernel
theorem d_LW_dead_21 : decode b_LW_dead 21 = .ok (.iconst 0, 1) := by decide +kernel
theorem d_LW_dead_22 : decode b_LW_dead 22 = .ok (.ireturn, 1) := by decide +kernel
theorem d_LW_run_0 : decode b_LW_run 0 = .ok (.aload 5, 2) := by decide +kernel
theorem d_LW_run_2 : decode b_LW_run 2 = .ok (.iconst 0, 1) := by decide +kernel
theorem d_LW_run_3 : decode b_LW_run 3 = .ok (.aload_n 0, 1) := by decide +kernel
theorem d_LW_run_4 : decode b_LW_run 4 = .ok (.iload_n 1, 1) := by decide +kernel
theorem d_LW_run_5 : decode b_LW_run 5 = .ok (.iload_n 2, 1) := by decide +kernel
theorem d_LW_run_6 : decode b_LW_run 6 = .ok (.iload_n 3, 1) := by decide +kernel
theorem d_LW_run_7 : decode b_LW_run 7 = .ok (.iload 4, 2) := by decide +kernel
theorem d_LW_run_9 : decode b_LW_run 9 = .ok (.invokevirtual 46, 3) := by decide +kernel
theorem d_LW_run_12 : decode b_LW_run 12 = .ok (.i2l, 1) := by decide +kernel
theorem d_LW_run_13 : decode b_LW_run 13 = .ok (.lastore, 1) := by decide +kernel
theorem d_LW_run_14 : decode b_LW_run 14 = .ok (.goto 11, 3) := by decide +kernel
theorem d_LW_run_17 : decode b_LW_run 17 = .ok (.astore 6, 2) := by decide +kernel
theorem d_LW_run_19 : decode b_LW_run 19 = .ok (.iconst 1, 1) := by decide +kernel
theorem d_LW_run_20 : decode b_LW_run 20 = .ok (.ireturn, 1) := by decide +kernel
theorem d_LW_run_21 : decode b_LW_run 21 = .ok (.astore 6, 2) := by decide +kernel
theorem d_LW_run_23 : decode b_LW_run 23 = .ok (.iconst 2, 1) := by decide +kernel
theorem d_LW_run_24 : decode b_LW_run 24 = .ok (.ireturn, 1) := by decide +kernel
theorem d_LW_run_25 : decode b_LW_run 25 = .ok (.iconst 0, 1) := by decide +kernel
theorem d_LW_run_26 : decode b_LW_run 26 = .ok (.ireturn, 1) := by decide +kernel
