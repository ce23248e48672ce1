theorem d_RC_type_0 : decode b_RC_type 0 = .ok (.iload_n 1, 1) := by decide +kernel
theorem d_RC_type_1 : decode b_RC_type 1 = .ok (.bipush 32, 2) := by decide +kernel
theorem d_RC_type_3 : decode b_RC_type 3 = .ok (.if_icmp .lt 18, 3) := by decide +kernel
theorem d_RC_type_6 : decode b_RC_type 6 = .ok (.iload_n 1, 1) := by decide +kernel
theorem d_RC_type_7 : decode b_RC_type 7 = .ok (.bipush 126, 2) := by decide +kernel
theorem d_RC_type_9 : decode b_RC_type 9 = .ok (.if_icmp .gt 12, 3) := by decide +kernel
theorem d_RC_type_12 : decode b_RC_type 12 = .ok (.aload_n 0, 1) := by decide +kernel
theorem d_RC_type_13 : decode b_RC_type 13 = .ok (.getfield 47, 3) := by decide +kernel
theorem d_RC_type_16 : decode b_RC_type 16 = .ok (.bipush 100, 2) := by decide +kernel
theorem d_RC_type_18 : decode b_RC_type 18 = .ok (.if_icmp .lt 5, 3) := by decide +kernel
theorem d_RC_type_21 : decode b_RC_type 21 = .ok (.iconst 0, 1) := by decide +kernel
theorem d_RC_type_22 : decode b_RC_type 22 = .ok (.ireturn, 1) := by decide +kernel
theorem d_RC_type_23 : decode b_RC_type 23 = .ok (.aload_n 0, 1) := by decide +kernel
theorem d_RC_type_24 : decode b_RC_type 24 = .ok (.getfield 9, 3) := by decide +kernel
theorem d_RC_type_27 : decode b_RC_type 27 = .ok (.aload_n 0, 1) := by decide +kernel
theorem d_RC_type_28 : decode b_RC_type 28 = .ok (.getfield 47, 3) := by decide +kernel
theorem d_RC_type_31 : decode b_RC_type 31 = .ok (.iload_n 1, 1) := by decide +kernel
theorem d_RC_type_32 : decode b_RC_type 32 = .ok (.castore, 1) := by decide +kernel
theorem d_RC_type_33 : decode b_RC_type 33 = .ok (.aload_n 0, 1) := by decide +kernel
theorem d_RC_type_34 : decode b_RC_type 34 = .ok (.dup, 1) := by decide +kernel
theorem d_RC_type_35 : decode b_RC_type 35 = .ok (.getfield 47, 3) := by decide +kernel
theorem d_RC_type_38 : decode b_RC_type 38 = .ok (.iconst 1, 1) := by decide +kernel
theorem d_RC_type_39 : decode b_RC_type 39 = .ok (.iadd, 1) := by decide +kernel
theorem d_RC_type_40 : decode b_RC_type 40 = .ok (.putfield 47, 3) := by decide +kernel
theorem d_RC_type_43 : decode b_RC_type 43 = .ok (.iconst 1, 1) := by decide +kernel
theorem d_RC_type_44 : decode b_RC_type 44 = .ok (.ireturn, 1) := by decide +kernel
theorem d_RC_wipe_0 : decode b_RC_wipe 0 = .ok (.aload_n 0, 1) := by decide +kernel
theorem d_RC_wipe_1 : decode b_RC_wipe 1 = .ok (.getfield 47, 3) := by decide +kernel
theorem d_RC_wipe_4 : decode b_RC_wipe 4 = .ok (.istore_n 1, 1) := by decide +kernel
theorem d_RC_wipe_5 : decode b_RC_wipe 5 = .ok (.aload_n 0, 1) := by decide +kernel
theorem d_RC_wipe_6 : decode b_RC_wipe 6 = .ok (.iconst 0, 1) := by decide +kernel
theorem d_RC_wipe_7 : decode b_RC_wipe 7 = .ok (.putfield 47, 3) := by decide +kernel
theorem d_RC_wipe_10 : decode b_RC_wipe 10 = .ok (.iload_n 1, 1) := by decide +kernel
theorem d_RC_wipe_11 : decode b_RC_wipe 11 = .ok (.ireturn, 1) := by decide +kernel
theorem d_RC_shifts_0 : decode b_RC_shifts 0 = .ok (.aload_n 0, 1) := by decide +kernel
theorem d_RC_shifts_1 : decode b_RC_shifts 1 = .ok (.getfield 16, 3) := by decide +kernel
theorem d_RC_shifts_4 : decode b_RC_shifts 4 = .ok (.iload_n 1, 1) := by decide +kernel
theorem d_RC_shifts_5 : decode b_RC_shifts 5 = .ok (.putfield 65, 3) := by decide +kernel
theorem d_RC_shifts_8 : decode b_RC_shifts 8 = .ok (.return_, 1) := by decide +kernel
theorem d_RC_at_0 : decode b_RC_at 0 = .ok (.aload_n 0, 1) := by decide +kernel
theorem d_RC_at_1 : decode b_RC_at 1 = .ok (.iload_n 1, 1) := by decide +kernel
theorem d_RC_at_2 : decode b_RC_at 2 = .ok (.iload_n 2, 1) := by decide +kernel
theorem d_RC_at_3 : decode b_RC_at 3 = .ok (.iload_n 3, 1) := by decide +kernel
theorem d_RC_at_4 : decode b_RC_at 4 = .ok (.invokevirtual 69, 3) := by decide +kernel
theorem d_RC_at_7 : decode b_RC_at 7 = .ok (.astore 4, 2) := by decide +kernel
theorem d_RC_at_9 : decode b_RC_at 9 = .ok (.aload_n 0, 1) := by decide +kernel
theorem d_RC_at_10 : decode b_RC_at 10 = .ok (.getfield 16, 3) := by decide +kernel
theorem d_RC_at_13 : decode b_RC_at 13 = .ok (.iload_n 2, 1) := by decide +kernel
theorem d_RC_at_14 : decode b_RC_at 14 = .ok (.iload_n 3, 1) := by decide +kernel
theorem d_RC_at_15 : decode b_RC_at 15 = .ok (.invokevirtual 73, 3) := by decide +kernel
theorem d_RC_at_18 : decode b_RC_at 18 = .ok (.ifCond .eq 7, 3) := by decide +kernel
theorem d_RC_at_21 : decode b_RC_at 21 = .ok (.iconst (-1), 1) := by decide +kernel
theorem d_RC_at_22 : decode b_RC_at 22 = .ok (.goto 13, 3) := by decide +kernel
theorem d_RC_at_25 : decode b_RC_at 25 = .ok (.aload 4, 2) := by decide +kernel
theorem d_RC_at_27 : decode b_RC_at 27 = .ok (.getfield 77, 3) := by decide +kernel
theorem d_RC_at_30 : decode b_RC_at 30 = .ok (.iload_n 2, 1) := by decide +kernel
theorem d_RC_at_31 : decode b_RC_at 31 = .ok (.iload_n 3, 1) := by decide +kernel
theorem d_RC_at_32 : decode b_RC_at 32 = .ok (.invokevirtual 81, 3) := by decide +kernel
theorem d_RC_at_35 : decode b_RC_at 35 = .ok (.ireturn, 1) := by decide +kernel
theorem d_RC_which_0 : decode b_RC_which 0 = .ok (.aload_n 0, 1) := by decide +kernel
theorem d_RC_which_1 : decode b_RC_which 1 = .ok (.iload_n 1, 1) := by decide +kernel
theorem d_RC_which_2 : decode b_RC_which 2 = .ok (.iload_n 2, 1) := by decide +kernel
theorem d_RC_which_3 : decode b_RC_which 3 = .ok (.iload_n 3, 1) := by decide +kernel
theorem d_RC_which_4 : decode b_RC_which 4 = .ok (.invokevirtual 69, 3) := by decide +kernel
theorem d_RC_which_7 : decode b_RC_which 7 = .ok (.astore 4, 2) := by decide +kernel
theorem d_RC_which_9 : decode b_RC_which 9 = .ok (.aload_n 0, 1) := by decide +kernel
theorem d_RC_which_10 : decode b_RC_which 10 = .ok (.getfield 16, 3) := by decide +kernel
theorem d_RC_which_13 : decode b_RC_which 13 = .ok (.iload_n 2, 1) := by decide +kernel
theorem d_RC_which_14 : decode b_RC_which 14 = .ok (.iload_n 3, 1) := by decide +kernel
theorem d_RC_which_15 : decode b_RC_which 15 = .ok (.invokevirtual 73, 3) := by decide +kernel
theorem d_RC_which_18 : decode b_RC_which 18 = .ok (.ifCond .eq 7, 3) := by decide +kernel
theorem d_RC_which_21 : decode b_RC_which 21 = .ok (.iconst (-1), 1) := by decide +kernel
theorem d_RC_which_22 : decode b_RC_which 22 = .ok (.goto 13, 3) := by decide +kernel
theorem d_RC_which_25 : decode b_RC_which 25 = .ok (.aload 4, 2) := by decide +kernel
theorem d_RC_which_27 : decode b_RC_which 27 = .ok (.getfield 87, 3) := by decide +kernel
theorem d_RC_which_30 : decode b_RC_which 30 = .ok (.iload_n 2, 1) := by decide +kernel
theorem d_RC_which_31 : decode b_RC_which 31 = .ok (.iload_n 3, 1) := by decide +kernel
theorem d_RC_which_32 : decode b_RC_which 32 = .ok (.invokevirtual 81, 3) := by decide +kernel
theorem d_RC_which_35 : decode b_RC_which 35 = .ok (.ireturn, 1) := by decide +kernel
theorem d_RC_dayOf_0 : decode b_RC_dayOf 0 = .ok (.iload_n 1, 1) := by decide +kernel
theorem d_RC_dayOf_1 : decode b_RC_dayOf 1 = .ok (.iload_n 2, 1) := by decide +kernel
theorem d_RC_dayOf_2 : decode b_RC_dayOf 2 = .ok (.iload_n 3, 1) := by decide +kernel
theorem d_RC_dayOf_3 : decode b_RC_dayOf 3 = .ok (.invokestatic 126, 3) := by decide +kernel
theorem d_RC_dayOf_6 : decode b_RC_dayOf 6 = .ok (.ireturn, 1) := by decide +kernel
theorem d_RC_dateOf_0 : decode b_RC_dateOf 0 = .ok (.iload_n 1, 1) := by decide +kernel
theorem d_RC_dateOf_1 : decode b_RC_dateOf 1 = .ok (.ifCond .lt 10, 3) := by decide +kernel
theorem d_RC_dateOf_4 : decode b_RC_dateOf 4 = .ok (.iload_n 1, 1) := by decide +kernel
theorem d_RC_dateOf_5 : decode b_RC_dateOf 5 = .ok (.sipush 1461, 3) := by decide +kernel
theorem d_RC_dateOf_8 : decode b_RC_dateOf 8 = .ok (.if_icmp .lt 5, 3) := by decide +kernel
theorem d_RC_dateOf_11 : decode b_RC_dateOf 11 = .ok (.iconst (-1), 1) := by decide +kernel
theorem d_RC_dateOf_12 : decode b_RC_dateOf 12 = .ok (.ireturn, 1) := by decide +kernel
theorem d_RC_dateOf_13 : decode b_RC_dateOf 13 = .ok (.iload_n 2, 1) := by decide +kernel
theorem d_RC_dateOf_14 : decode b_RC_dateOf 14 = .ok (.tableswitch 45 0 2 #[26, 35, 40], 26) := by decide +kernel
theorem d_RC_dateOf_40 : decode b_RC_dateOf 40 = .ok (.aload_n 0, 1) := by decide +kernel
theorem d_RC_dateOf_41 : decode b_RC_dateOf 41 = .ok (.getfield 23, 3) := by decide +kernel
theorem d_RC_dateOf_44 : decode b_RC_dateOf 44 = .ok (.iload_n 1, 1) := by decide +kernel
theorem d_RC_dateOf_45 : decode b_RC_dateOf 45 = .ok (.invokevirtual 130, 3) := by decide +kernel
theorem d_RC_dateOf_48 : decode b_RC_dateOf 48 = .ok (.ireturn, 1) := by decide +kernel
theorem d_RC_dateOf_49 : decode b_RC_dateOf 49 = .ok (.iload_n 1, 1) := by decide +kernel
theorem d_RC_dateOf_50 : decode b_RC_dateOf 50 = .ok (.invokestatic 134, 3) := by decide +kernel
theorem d_RC_dateOf_53 : decode b_RC_dateOf 53 = .ok (.ireturn, 1) := by decide +kernel
theorem d_RC_dateOf_54 : decode b_RC_dateOf 54 = .ok (.iload_n 1, 1) := by decide +kernel
theorem d_RC_dateOf_55 : decode b_RC_dateOf 55 = .ok (.invokestatic 137, 3) := by decide +kernel
theorem d_RC_dateOf_58 : decode b_RC_dateOf 58 = .ok (.ireturn, 1) := by decide +kernel
theorem d_RC_dateOf_59 : decode b_RC_dateOf 59 = .ok (.iconst (-1), 1) := by decide +kernel
theorem d_RC_dateOf_60 : decode b_RC_dateOf 60 = .ok (.ireturn, 1) := by decide +kernel
theorem d_RC_feast_0 : decode b_RC_feast 0 = .ok (.iload_n 1, 1) := by decide +kernel
theorem d_RC_feast_1 : decode b_RC_feast 1 = .ok (.invokestatic 140, 3) := by decide +kernel
theorem d_RC_feast_4 : decode b_RC_feast 4 = .ok (.ireturn, 1) := by decide +kernel
theorem d_RC_elapsed_0 : decode b_RC_elapsed 0 = .ok (.aload_n 0, 1) := by decide +kernel
theorem d_RC_elapsed_1 : decode b_RC_elapsed 1 = .ok (.iload_n 1, 1) := by decide +kernel
theorem d_RC_elapsed_2 : decode b_RC_elapsed 2 = .ok (.iload_n 2, 1) := by decide +kernel
theorem d_RC_elapsed_3 : decode b_RC_elapsed 3 = .ok (.invokevirtual 143, 3) := by decide +kernel
theorem d_RC_elapsed_6 : decode b_RC_elapsed 6 = .ok (.aload_n 0, 1) := by decide +kernel
theorem d_RC_elapsed_7 : decode b_RC_elapsed 7 = .ok (.getfield 16, 3) := by decide +kernel
theorem d_RC_elapsed_10 : decode b_RC_elapsed 10 = .ok (.iload_n 1, 1) := by decide +kernel
theorem d_RC_elapsed_11 : decode b_RC_elapsed 11 = .ok (.iload_n 2, 1) := by decide +kernel
theorem d_RC_elapsed_12 : decode b_RC_elapsed 12 = .ok (.invokevirtual 73, 3) := by decide +kernel
theorem d_RC_elapsed_15 : decode b_RC_elapsed 15 = .ok (.ifCond .eq 7, 3) := by decide +kernel
theorem d_RC_elapsed_18 : decode b_RC_elapsed 18 = .ok (.iconst (-1), 1) := by decide +kernel
theorem d_RC_elapsed_19 : decode b_RC_elapsed 19 = .ok (.goto 13, 3) := by decide +kernel
theorem d_RC_elapsed_22 : decode b_RC_elapsed 22 = .ok (.aload_n 0, 1) := by decide +kernel
theorem d_RC_elapsed_23 : decode b_RC_elapsed 23 = .ok (.getfield 16, 3) := by decide +kernel
theorem d_RC_elapsed_26 : decode b_RC_elapsed 26 = .ok (.iload_n 1, 1) := by decide +kernel
theorem d_RC_elapsed_27 : decode b_RC_elapsed 27 = .ok (.iload_n 2, 1) := by decide +kernel
theorem d_RC_elapsed_28 : decode b_RC_elapsed 28 = .ok (.iload_n 3, 1) := by decide +kernel
theorem d_RC_elapsed_29 : decode b_RC_elapsed 29 = .ok (.invokevirtual 107, 3) := by decide +kernel
theorem d_RC_elapsed_32 : decode b_RC_elapsed 32 = .ok (.ireturn, 1) := by decide +kernel
theorem d_RC_clock_0 : decode b_RC_clock 0 = .ok (.iload_n 1, 1) := by decide +kernel
theorem d_RC_clock_1 : decode b_RC_clock 1 = .ok (.ifCond .lt 9, 3) := by decide +kernel
theorem d_RC_clock_4 : decode b_RC_clock 4 = .ok (.iload_n 1, 1) := by decide +kernel
theorem d_RC_clock_5 : decode b_RC_clock 5 = .ok (.ldc 147, 2) := by decide +kernel
theorem d_RC_clock_7 : decode b_RC_clock 7 = .ok (.if_icmp .lt 7, 3) := by decide +kernel
theorem d_RC_clock_10 : decode b_RC_clock 10 = .ok (.iconst (-1), 1) := by decide +kernel
theorem d_RC_clock_11 : decode b_RC_clock 11 = .ok (.goto 11, 3) := by decide +kernel
theorem d_RC_clock_14 : decode b_RC_clock 14 = .ok (.aload_n 0, 1) := by decide +kernel
theorem d_RC_clock_15 : decode b_RC_clock 15 = .ok (.getfield 16, 3) := by decide +kernel
theorem d_RC_clock_18 : decode b_RC_clock 18 = .ok (.iload_n 1, 1) := by decide +kernel
theorem d_RC_clock_19 : decode b_RC_clock 19 = .ok (.invokevirtual 148, 3) := by decide +kernel
theorem d_RC_clock_22 : decode b_RC_clock 22 = .ok (.ireturn, 1) := by decide +kernel
theorem d_RC_dead_0 : decode b_RC_dead 0 = .ok (.aload_n 0, 1) := by decide +kernel
theorem d_RC_dead_1 : decode b_RC_dead 1 = .ok (.iload_n 1, 1) := by decide +kernel
theorem d_RC_dead_2 : decode b_RC_dead 2 = .ok (.invokevirtual 51, 3) := by decide +kernel
theorem d_RC_dead_5 : decode b_RC_dead 5 = .ok (.aload_n 0, 1) := by decide +kernel
theorem d_RC_dead_6 : decode b_RC_dead 6 = .ok (.iload_n 1, 1) := by decide +kernel
theorem d_RC_dead_7 : decode b_RC_dead 7 = .ok (.invokevirtual 118, 3) := by decide +kernel
theorem d_RC_dead_10 : decode b_RC_dead 10 = .ok (.astore_n 3, 1) := by decide +kernel
theorem d_RC_dead_11 : decode b_RC_dead 11 = .ok (.iconst 0, 1) := by decide +kernel
theorem d_RC_dead_12 : decode b_RC_dead 12 = .ok (.istore 4, 2) := by decide +kernel
theorem d_RC_dead_14 : decode b_RC_dead 14 = .ok (.iconst 1, 1) := by decide +kernel
theorem d_RC_dead_15 : decode b_RC_dead 15 = .ok (.istore 5, 2) := by decide +kernel
theorem d_RC_dead_17 : decode b_RC_dead 17 = .ok (.iload 5, 2) := by decide +kernel
theorem d_RC_dead_19 : decode b_RC_dead 19 = .ok (.aload_n 3, 1) := by decide +kernel
theorem d_RC_dead_20 : decode b_RC_dead 20 = .ok (.getfield 62, 3) := by decide +kernel
theorem d_RC_dead_23 : decode b_RC_dead 23 = .ok (.if_icmp .gt 31, 3) := by decide +kernel
theorem d_RC_dead_26 : decode b_RC_dead 26 = .ok (.aload_n 0, 1) := by decide +kernel
theorem d_RC_dead_27 : decode b_RC_dead 27 = .ok (.aload_n 3, 1) := by decide +kernel
theorem d_RC_dead_28 : decode b_RC_dead 28 = .ok (.iload 5, 2) := by decide +kernel
theorem d_RC_dead_30 : decode b_RC_dead 30 = .ok (.invokevirtual 158, 3) := by decide +kernel
theorem d_RC_dead_33 : decode b_RC_dead 33 = .ok (.ifCond .ne 15, 3) := by decide +kernel
theorem d_RC_dead_36 : decode b_RC_dead 36 = .ok (.iload 4, 2) := by decide +kernel
theorem d_RC_dead_38 : decode b_RC_dead 38 = .ok (.iload_n 2, 1) := by decide +kernel
theorem d_RC_dead_39 : decode b_RC_dead 39 = .ok (.if_icmp .ne 6, 3) := by decide +kernel
theorem d_RC_dead_42 : decode b_RC_dead 42 = .ok (.iload 5, 2) := by decide +kernel
theorem d_RC_dead_44 : decode b_RC_dead 44 = .ok (.ireturn, 1) := by decide +kernel
theorem d_RC_dead_45 : decode b_RC_dead 45 = .ok (.iinc 4 1, 3) := by decide +kernel
theorem d_RC_dead_48 : decode b_RC_dead 48 = .ok (.iinc 5 1, 3) := by decide +kernel
theorem d_RC_dead_51 : decode b_RC_dead 51 = .ok (.goto (-34), 3) := by decide +kernel
theorem d_RC_dead_54 : decode b_RC_dead 54 = .ok (.iconst (-1), 1) := by decide +kernel
theorem d_RC_dead_55 : decode b_RC_dead 55 = .ok (.ireturn, 1) := by decide +kernel
theorem d_RC_firstOfRun_0 : decode b_RC_firstOfRun 0 = .ok (.iconst 0, 1) := by decide +kernel
theorem d_RC_firstOfRun_1 : decode b_RC_firstOfRun 1 = .ok (.istore 4, 2) := by decide +kernel
theorem d_RC_firstOfRun_3 : decode b_RC_firstOfRun 3 = .ok (.iconst 0, 1) := by decide +kernel
theorem d_RC_firstOfRun_4 : decode b_RC_firstOfRun 4 = .ok (.istore 5, 2) := by decide +kernel
theorem d_RC_firstOfRun_6 : decode b_RC_firstOfRun 6 = .ok (.iconst 0, 1) := by decide +kernel
theorem d_RC_firstOfRun_7 : decode b_RC_firstOfRun 7 = .ok (.istore 6, 2) := by decide +kernel
theorem d_RC_firstOfRun_9 : decode b_RC_firstOfRun 9 = .ok (.iload 6, 2) := by decide +kernel
theorem d_RC_firstOfRun_11 : decode b_RC_firstOfRun 11 = .ok (.bipush 48, 2) := by decide +kernel
theorem d_RC_firstOfRun_13 : decode b_RC_firstOfRun 13 = .ok (.if_icmp .ge 65, 3) := by decide +kernel
theorem d_RC_firstOfRun_16 : decode b_RC_firstOfRun 16 = .ok (.aload_n 0, 1) := by decide +kernel
theorem d_RC_firstOfRun_17 : decode b_RC_firstOfRun 17 = .ok (.getfield 16, 3) := by decide +kernel
theorem d_RC_firstOfRun_20 : decode b_RC_firstOfRun 20 = .ok (.iload_n 2, 1) := by decide +kernel
theorem d_RC_firstOfRun_21 : decode b_RC_firstOfRun 21 = .ok (.iload 6, 2) := by decide +kernel
theorem d_RC_firstOfRun_23 : decode b_RC_firstOfRun 23 = .ok (.invokevirtual 73, 3) := by decide +kernel
theorem d_RC_firstOfRun_26 : decode b_RC_firstOfRun 26 = .ok (.ifCond .eq 6, 3) := by decide +kernel
theorem d_RC_firstOfRun_29 : decode b_RC_firstOfRun 29 = .ok (.goto 43, 3) := by decide +kernel
theorem d_RC_firstOfRun_32 : decode b_RC_firstOfRun 32 = .ok (.iload 5, 2) := by decide +kernel
theorem d_RC_firstOfRun_34 : decode b_RC_firstOfRun 34 = .ok (.istore 7, 2) := by decide +kernel
theorem d_RC_firstOfRun_36 : decode b_RC_firstOfRun 36 = .ok (.aload_n 1, 1) := by decide +kernel
theorem d_RC_firstOfRun_37 : decode b_RC_firstOfRun 37 = .ok (.getfield 77, 3) := by decide +kernel
theorem d_RC_firstOfRun_40 : decode b_RC_firstOfRun 40 = .ok (.iload_n 2, 1) := by decide +kernel
theorem d_RC_firstOfRun_41 : decode b_RC_firstOfRun 41 = .ok (.iload 6, 2) := by decide +kernel
theorem d_RC_firstOfRun_43 : decode b_RC_firstOfRun 43 = .ok (.invokevirtual 81, 3) := by decide +kernel
theorem d_RC_firstOfRun_46 : decode b_RC_firstOfRun 46 = .ok (.istore 5, 2) := by decide +kernel
theorem d_RC_firstOfRun_48 : decode b_RC_firstOfRun 48 = .ok (.iload 5, 2) := by decide +kernel
theorem d_RC_firstOfRun_50 : decode b_RC_firstOfRun 50 = .ok (.ifCond .le 22, 3) := by decide +kernel
theorem d_RC_firstOfRun_53 : decode b_RC_firstOfRun 53 = .ok (.iload 5, 2) := by decide +kernel
theorem d_RC_firstOfRun_55 : decode b_RC_firstOfRun 55 = .ok (.iload 7, 2) := by decide +kernel
theorem d_RC_firstOfRun_57 : decode b_RC_firstOfRun 57 = .ok (.if_icmp .eq 15, 3) := by decide +kernel
theorem d_RC_firstOfRun_60 : decode b_RC_firstOfRun 60 = .ok (.iload 4, 2) := by decide +kernel
theorem d_RC_firstOfRun_62 : decode b_RC_firstOfRun 62 = .ok (.iload_n 3, 1) := by decide +kernel
theorem d_RC_firstOfRun_63 : decode b_RC_firstOfRun 63 = .ok (.if_icmp .ne 6, 3) := by decide +kernel
theorem d_RC_firstOfRun_66 : decode b_RC_firstOfRun 66 = .ok (.iload 6, 2) := by decide +kernel
theorem d_RC_firstOfRun_68 : decode b_RC_firstOfRun 68 = .ok (.ireturn, 1) := by decide +kernel
theorem d_RC_firstOfRun_69 : decode b_RC_firstOfRun 69 = .ok (.iinc 4 1, 3) := by decide +kernel
theorem d_RC_firstOfRun_72 : decode b_RC_firstOfRun 72 = .ok (.iinc 6 1, 3) := by decide +kernel
theorem d_RC_firstOfRun_75 : decode b_RC_firstOfRun 75 = .ok (.goto (-66), 3) := by decide +kernel
theorem d_RC_firstOfRun_78 : decode b_RC_firstOfRun 78 = .ok (.iconst (-1), 1) := by decide +kernel
theorem d_RC_firstOfRun_79 : decode b_RC_firstOfRun 79 = .ok (.ireturn, 1) := by decide +kernel
theorem d_RC_decidesSome_0 : decode b_RC_decidesSome 0 = .ok (.iconst 0, 1) := by decide +kernel
theorem d_RC_decidesSome_1 : decode b_RC_decidesSome 1 = .ok (.istore_n 3, 1) := by decide +kernel
theorem d_RC_decidesSome_2 : decode b_RC_decidesSome 2 = .ok (.iload_n 3, 1) := by decide +kernel
theorem d_RC_decidesSome_3 : decode b_RC_decidesSome 3 = .ok (.sipush 1461, 3) := by decide +kernel
theorem d_RC_decidesSome_6 : decode b_RC_decidesSome 6 = .ok (.if_icmp .ge 34, 3) := by decide +kernel
theorem d_RC_decidesSome_9 : decode b_RC_decidesSome 9 = .ok (.aload_n 1, 1) := by decide +kernel
theorem d_RC_decidesSome_10 : decode b_RC_decidesSome 10 = .ok (.getfield 87, 3) := by decide +kernel
theorem d_RC_decidesSome_13 : decode b_RC_decidesSome 13 = .ok (.iload_n 3, 1) := by decide +kernel
theorem d_RC_decidesSome_14 : decode b_RC_decidesSome 14 = .ok (.iload_n 2, 1) := by decide +kernel
theorem d_RC_decidesSome_15 : decode b_RC_decidesSome 15 = .ok (.invokevirtual 94, 3) := by decide +kernel
theorem d_RC_decidesSome_18 : decode b_RC_decidesSome 18 = .ok (.aload_n 0, 1) := by decide +kernel
theorem d_RC_decidesSome_19 : decode b_RC_decidesSome 19 = .ok (.getfield 16, 3) := by decide +kernel
theorem d_RC_decidesSome_22 : decode b_RC_decidesSome 22 = .ok (.iload_n 3, 1) := by decide +kernel
theorem d_RC_decidesSome_23 : decode b_RC_decidesSome 23 = .ok (.invokevirtual 99, 3) := by decide +kernel
theorem d_RC_decidesSome_26 : decode b_RC_decidesSome 26 = .ok (.land, 1) := by decide +kernel
theorem d_RC_decidesSome_27 : decode b_RC_decidesSome 27 = .ok (.lconst 0, 1) := by decide +kernel
theorem d_RC_decidesSome_28 : decode b_RC_decidesSome 28 = .ok (.lcmp, 1) := by decide +kernel
theorem d_RC_decidesSome_29 : decode b_RC_decidesSome 29 = .ok (.ifCond .eq 5, 3) := by decide +kernel
theorem d_RC_decidesSome_32 : decode b_RC_decidesSome 32 = .ok (.iconst 1, 1) := by decide +kernel
theorem d_RC_decidesSome_33 : decode b_RC_decidesSome 33 = .ok (.ireturn, 1) := by decide +kernel
theorem d_RC_decidesSome_34 : decode b_RC_decidesSome 34 = .ok (.iinc 3 1, 3) := by decide +kernel
theorem d_RC_decidesSome_37 : decode b_RC_decidesSome 37 = .ok (.goto (-35), 3) := by decide +kernel
theorem d_RC_decidesSome_40 : decode b_RC_decidesSome 40 = .ok (.iconst 0, 1) := by decide +kernel
theorem d_RC_decidesSome_41 : decode b_RC_decidesSome 41 = .ok (.ireturn, 1) := by decide +kernel
theorem d_RC_needCalendar_0 : decode b_RC_needCalendar 0 = .ok (.iload_n 1, 1) := by decide +kernel
theorem d_RC_needCalendar_1 : decode b_RC_needCalendar 1 = .ok (.ifCond .lt 8, 3) := by decide +kernel
theorem d_RC_needCalendar_4 : decode b_RC_needCalendar 4 = .ok (.iload_n 1, 1) := by decide +kernel
theorem d_RC_needCalendar_5 : decode b_RC_needCalendar 5 = .ok (.iconst 3, 1) := by decide +kernel
theorem d_RC_needCalendar_6 : decode b_RC_needCalendar 6 = .ok (.if_icmp .lt 13, 3) := by decide +kernel
theorem d_RC_needCalendar_9 : decode b_RC_needCalendar 9 = .ok (.new 111, 3) := by decide +kernel
theorem d_RC_needCalendar_12 : decode b_RC_needCalendar 12 = .ok (.dup, 1) := by decide +kernel
theorem d_RC_needCalendar_13 : decode b_RC_needCalendar 13 = .ok (.ldc 169, 2) := by decide +kernel
theorem d_RC_needCalendar_15 : decode b_RC_needCalendar 15 = .ok (.invokespecial 115, 3) := by decide +kernel
theorem d_RC_needCalendar_18 : decode b_RC_needCalendar 18 = .ok (.athrow, 1) := by decide +kernel
theorem d_RC_needCalendar_19 : decode b_RC_needCalendar 19 = .ok (.return_, 1) := by decide +kernel
theorem d_RC_needCell_0 : decode b_RC_needCell 0 = .ok (.iload_n 1, 1) := by decide +kernel
theorem d_RC_needCell_1 : decode b_RC_needCell 1 = .ok (.ifCond .lt 20, 3) := by decide +kernel
theorem d_RC_needCell_4 : decode b_RC_needCell 4 = .ok (.iload_n 1, 1) := by decide +kernel
theorem d_RC_needCell_5 : decode b_RC_needCell 5 = .ok (.sipush 1461, 3) := by decide +kernel
theorem d_RC_needCell_8 : decode b_RC_needCell 8 = .ok (.if_icmp .ge 13, 3) := by decide +kernel
theorem d_RC_needCell_11 : decode b_RC_needCell 11 = .ok (.iload_n 2, 1) := by decide +kernel
theorem d_RC_needCell_12 : decode b_RC_needCell 12 = .ok (.ifCond .lt 9, 3) := by decide +kernel
theorem d_RC_needCell_15 : decode b_RC_needCell 15 = .ok (.iload_n 2, 1) := by decide +kernel
theorem d_RC_needCell_16 : decode b_RC_needCell 16 = .ok (.bipush 48, 2) := by decide +kernel
theorem d_RC_needCell_18 : decode b_RC_needCell 18 = .ok (.if_icmp .lt 13, 3) := by decide +kernel
theorem d_RC_needCell_21 : decode b_RC_needCell 21 = .ok (.new 111, 3) := by decide +kernel
theorem d_RC_needCell_24 : decode b_RC_needCell 24 = .ok (.dup, 1) := by decide +kernel
theorem d_RC_needCell_25 : decode b_RC_needCell 25 = .ok (.ldc 171, 2) := by decide +kernel
theorem d_RC_needCell_27 : decode b_RC_needCell 27 = .ok (.invokespecial 115, 3) := by decide +kernel
theorem d_RC_needCell_30 : decode b_RC_needCell 30 = .ok (.athrow, 1) := by decide +kernel
theorem d_RC_needCell_31 : decode b_RC_needCell 31 = .ok (.return_, 1) := by decide +kernel
theorem d_RC_planWithCell_0 : decode b_RC_planWithCell 0 = .ok (.aload_n 0, 1) := by decide +kernel
theorem d_RC_planWithCell_1 : decode b_RC_planWithCell 1 = .ok (.iload_n 1, 1) := by decide +kernel
theorem d_RC_planWithCell_2 : decode b_RC_planWithCell 2 = .ok (.invokevirtual 51, 3) := by decide +kernel
theorem d_RC_planWithCell_5 : decode b_RC_planWithCell 5 = .ok (.aload_n 0, 1) := by decide +kernel
theorem d_RC_planWithCell_6 : decode b_RC_planWithCell 6 = .ok (.iload_n 2, 1) := by decide +kernel
theorem d_RC_planWithCell_7 : decode b_RC_planWithCell 7 = .ok (.iload_n 3, 1) := by decide +kernel
theorem d_RC_planWithCell_8 : decode b_RC_planWithCell 8 = .ok (.invokevirtual 143, 3) := by decide +kernel
theorem d_RC_planWithCell_11 : decode b_RC_planWithCell 11 = .ok (.aload_n 0, 1) := by decide +kernel
theorem d_RC_planWithCell_12 : decode b_RC_planWithCell 12 = .ok (.iload_n 1, 1) := by decide +kernel
theorem d_RC_planWithCell_13 : decode b_RC_planWithCell 13 = .ok (.invokevirtual 118, 3) := by decide +kernel
theorem d_RC_planWithCell_16 : decode b_RC_planWithCell 16 = .ok (.areturn, 1) := by decide +kernel
theorem d_RC_compiledPlan_0 : decode b_RC_compiledPlan 0 = .ok (.aload_n 0, 1) := by decide +kernel
theorem d_RC_compiledPlan_1 : decode b_RC_compiledPlan 1 = .ok (.getfield 38, 3) := by decide +kernel
theorem d_RC_compiledPlan_4 : decode b_RC_compiledPlan 4 = .ok (.iload_n 1, 1) := by decide +kernel
theorem d_RC_compiledPlan_5 : decode b_RC_compiledPlan 5 = .ok (.aaload, 1) := by decide +kernel
theorem d_RC_compiledPlan_6 : decode b_RC_compiledPlan 6 = .ok (.getfield 62, 3) := by decide +kernel
theorem d_RC_compiledPlan_9 : decode b_RC_compiledPlan 9 = .ok (.ifCond .ne 13, 3) := by decide +kernel
theorem d_RC_compiledPlan_12 : decode b_RC_compiledPlan 12 = .ok (.new 173, 3) := by decide +kernel
theorem d_RC_compiledPlan_15 : decode b_RC_compiledPlan 15 = .ok (.dup, 1) := by decide +kernel
theorem d_RC_compiledPlan_16 : decode b_RC_compiledPlan 16 = .ok (.ldc 175, 2) := by decide +kernel
theorem d_RC_compiledPlan_18 : decode b_RC_compiledPlan 18 = .ok (.invokespecial 177, 3) := by decide +kernel
theorem d_RC_compiledPlan_21 : decode b_RC_compiledPlan 21 = .ok (.athrow, 1) := by decide +kernel
theorem d_RC_compiledPlan_22 : decode b_RC_compiledPlan 22 = .ok (.aload_n 0, 1) := by decide +kernel
theorem d_RC_compiledPlan_23 : decode b_RC_compiledPlan 23 = .ok (.getfield 38, 3) := by decide +kernel
theorem d_RC_compiledPlan_26 : decode b_RC_compiledPlan 26 = .ok (.iload_n 1, 1) := by decide +kernel
theorem d_RC_compiledPlan_27 : decode b_RC_compiledPlan 27 = .ok (.aaload, 1) := by decide +kernel
theorem d_RC_compiledPlan_28 : decode b_RC_compiledPlan 28 = .ok (.areturn, 1) := by decide +kernel
