theorem d_RR_takeNots_0 : decode b_RR_takeNots 0 = .ok (.iconst 0, 1) := by decide +kernel
theorem d_RR_takeNots_1 : decode b_RR_takeNots 1 = .ok (.istore_n 1, 1) := by decide +kernel
theorem d_RR_takeNots_2 : decode b_RR_takeNots 2 = .ok (.iconst 0, 1) := by decide +kernel
theorem d_RR_takeNots_3 : decode b_RR_takeNots 3 = .ok (.istore_n 2, 1) := by decide +kernel
theorem d_RR_takeNots_4 : decode b_RR_takeNots 4 = .ok (.iload_n 2, 1) := by decide +kernel
theorem d_RR_takeNots_5 : decode b_RR_takeNots 5 = .ok (.bipush 100, 2) := by decide +kernel
theorem d_RR_takeNots_7 : decode b_RR_takeNots 7 = .ok (.if_icmp .ge 28, 3) := by decide +kernel
theorem d_RR_takeNots_10 : decode b_RR_takeNots 10 = .ok (.aload_n 0, 1) := by decide +kernel
theorem d_RR_takeNots_11 : decode b_RR_takeNots 11 = .ok (.bipush 33, 2) := by decide +kernel
theorem d_RR_takeNots_13 : decode b_RR_takeNots 13 = .ok (.invokevirtual 58, 3) := by decide +kernel
theorem d_RR_takeNots_16 : decode b_RR_takeNots 16 = .ok (.ifCond .eq 19, 3) := by decide +kernel
theorem d_RR_takeNots_19 : decode b_RR_takeNots 19 = .ok (.iload_n 1, 1) := by decide +kernel
theorem d_RR_takeNots_20 : decode b_RR_takeNots 20 = .ok (.ifCond .ne 7, 3) := by decide +kernel
theorem d_RR_takeNots_23 : decode b_RR_takeNots 23 = .ok (.iconst 1, 1) := by decide +kernel
theorem d_RR_takeNots_24 : decode b_RR_takeNots 24 = .ok (.goto 4, 3) := by decide +kernel
theorem d_RR_takeNots_27 : decode b_RR_takeNots 27 = .ok (.iconst 0, 1) := by decide +kernel
theorem d_RR_takeNots_28 : decode b_RR_takeNots 28 = .ok (.istore_n 1, 1) := by decide +kernel
theorem d_RR_takeNots_29 : decode b_RR_takeNots 29 = .ok (.iinc 2 1, 3) := by decide +kernel
theorem d_RR_takeNots_32 : decode b_RR_takeNots 32 = .ok (.goto (-28), 3) := by decide +kernel
theorem d_RR_takeNots_35 : decode b_RR_takeNots 35 = .ok (.iload_n 1, 1) := by decide +kernel
theorem d_RR_takeNots_36 : decode b_RR_takeNots 36 = .ok (.ireturn, 1) := by decide +kernel
theorem d_RR_readAtom_0 : decode b_RR_readAtom 0 = .ok (.aload_n 0, 1) := by decide +kernel
theorem d_RR_readAtom_1 : decode b_RR_readAtom 1 = .ok (.bipush 87, 2) := by decide +kernel
theorem d_RR_readAtom_3 : decode b_RR_readAtom 3 = .ok (.invokevirtual 58, 3) := by decide +kernel
theorem d_RR_readAtom_6 : decode b_RR_readAtom 6 = .ok (.ifCond .eq 8, 3) := by decide +kernel
theorem d_RR_readAtom_9 : decode b_RR_readAtom 9 = .ok (.aload_n 0, 1) := by decide +kernel
theorem d_RR_readAtom_10 : decode b_RR_readAtom 10 = .ok (.invokevirtual 119, 3) := by decide +kernel
theorem d_RR_readAtom_13 : decode b_RR_readAtom 13 = .ok (.ireturn, 1) := by decide +kernel
theorem d_RR_readAtom_14 : decode b_RR_readAtom 14 = .ok (.aload_n 0, 1) := by decide +kernel
theorem d_RR_readAtom_15 : decode b_RR_readAtom 15 = .ok (.bipush 78, 2) := by decide +kernel
theorem d_RR_readAtom_17 : decode b_RR_readAtom 17 = .ok (.invokevirtual 58, 3) := by decide +kernel
theorem d_RR_readAtom_20 : decode b_RR_readAtom 20 = .ok (.ifCond .eq 8, 3) := by decide +kernel
theorem d_RR_readAtom_23 : decode b_RR_readAtom 23 = .ok (.aload_n 0, 1) := by decide +kernel
theorem d_RR_readAtom_24 : decode b_RR_readAtom 24 = .ok (.invokevirtual 122, 3) := by decide +kernel
theorem d_RR_readAtom_27 : decode b_RR_readAtom 27 = .ok (.ireturn, 1) := by decide +kernel
theorem d_RR_readAtom_28 : decode b_RR_readAtom 28 = .ok (.aload_n 0, 1) := by decide +kernel
theorem d_RR_readAtom_29 : decode b_RR_readAtom 29 = .ok (.bipush 68, 2) := by decide +kernel
theorem d_RR_readAtom_31 : decode b_RR_readAtom 31 = .ok (.invokevirtual 58, 3) := by decide +kernel
theorem d_RR_readAtom_34 : decode b_RR_readAtom 34 = .ok (.ifCond .eq 8, 3) := by decide +kernel
theorem d_RR_readAtom_37 : decode b_RR_readAtom 37 = .ok (.aload_n 0, 1) := by decide +kernel
theorem d_RR_readAtom_38 : decode b_RR_readAtom 38 = .ok (.invokevirtual 125, 3) := by decide +kernel
theorem d_RR_readAtom_41 : decode b_RR_readAtom 41 = .ok (.ireturn, 1) := by decide +kernel
theorem d_RR_readAtom_42 : decode b_RR_readAtom 42 = .ok (.aload_n 0, 1) := by decide +kernel
theorem d_RR_readAtom_43 : decode b_RR_readAtom 43 = .ok (.bipush 80, 2) := by decide +kernel
theorem d_RR_readAtom_45 : decode b_RR_readAtom 45 = .ok (.invokevirtual 58, 3) := by decide +kernel
theorem d_RR_readAtom_48 : decode b_RR_readAtom 48 = .ok (.ifCond .eq 33, 3) := by decide +kernel
theorem d_RR_readAtom_51 : decode b_RR_readAtom 51 = .ok (.aload_n 0, 1) := by decide +kernel
theorem d_RR_readAtom_52 : decode b_RR_readAtom 52 = .ok (.iconst 1, 1) := by decide +kernel
theorem d_RR_readAtom_53 : decode b_RR_readAtom 53 = .ok (.iconst 0, 1) := by decide +kernel
theorem d_RR_readAtom_54 : decode b_RR_readAtom 54 = .ok (.iconst 1, 1) := by decide +kernel
theorem d_RR_readAtom_55 : decode b_RR_readAtom 55 = .ok (.invokevirtual 62, 3) := by decide +kernel
theorem d_RR_readAtom_58 : decode b_RR_readAtom 58 = .ok (.istore_n 1, 1) := by decide +kernel
theorem d_RR_readAtom_59 : decode b_RR_readAtom 59 = .ok (.aload_n 0, 1) := by decide +kernel
theorem d_RR_readAtom_60 : decode b_RR_readAtom 60 = .ok (.getfield 34, 3) := by decide +kernel
theorem d_RR_readAtom_63 : decode b_RR_readAtom 63 = .ok (.bipush 80, 2) := by decide +kernel
theorem d_RR_readAtom_65 : decode b_RR_readAtom 65 = .ok (.iload_n 1, 1) := by decide +kernel
theorem d_RR_readAtom_66 : decode b_RR_readAtom 66 = .ok (.iconst 0, 1) := by decide +kernel
theorem d_RR_readAtom_67 : decode b_RR_readAtom 67 = .ok (.invokevirtual 128, 3) := by decide +kernel
theorem d_RR_readAtom_70 : decode b_RR_readAtom 70 = .ok (.iload_n 1, 1) := by decide +kernel
theorem d_RR_readAtom_71 : decode b_RR_readAtom 71 = .ok (.iconst (-1), 1) := by decide +kernel
theorem d_RR_readAtom_72 : decode b_RR_readAtom 72 = .ok (.if_icmp .eq 7, 3) := by decide +kernel
theorem d_RR_readAtom_75 : decode b_RR_readAtom 75 = .ok (.iconst 1, 1) := by decide +kernel
theorem d_RR_readAtom_76 : decode b_RR_readAtom 76 = .ok (.goto 4, 3) := by decide +kernel
theorem d_RR_readAtom_79 : decode b_RR_readAtom 79 = .ok (.iconst 0, 1) := by decide +kernel
theorem d_RR_readAtom_80 : decode b_RR_readAtom 80 = .ok (.ireturn, 1) := by decide +kernel
theorem d_RR_readAtom_81 : decode b_RR_readAtom 81 = .ok (.aload_n 0, 1) := by decide +kernel
theorem d_RR_readAtom_82 : decode b_RR_readAtom 82 = .ok (.bipush 67, 2) := by decide +kernel
theorem d_RR_readAtom_84 : decode b_RR_readAtom 84 = .ok (.invokevirtual 58, 3) := by decide +kernel
theorem d_RR_readAtom_87 : decode b_RR_readAtom 87 = .ok (.ifCond .eq 8, 3) := by decide +kernel
theorem d_RR_readAtom_90 : decode b_RR_readAtom 90 = .ok (.aload_n 0, 1) := by decide +kernel
theorem d_RR_readAtom_91 : decode b_RR_readAtom 91 = .ok (.invokevirtual 132, 3) := by decide +kernel
theorem d_RR_readAtom_94 : decode b_RR_readAtom 94 = .ok (.ireturn, 1) := by decide +kernel
theorem d_RR_readAtom_95 : decode b_RR_readAtom 95 = .ok (.aload_n 0, 1) := by decide +kernel
theorem d_RR_readAtom_96 : decode b_RR_readAtom 96 = .ok (.bipush 70, 2) := by decide +kernel
theorem d_RR_readAtom_98 : decode b_RR_readAtom 98 = .ok (.invokevirtual 58, 3) := by decide +kernel
theorem d_RR_readAtom_101 : decode b_RR_readAtom 101 = .ok (.ifCond .eq 8, 3) := by decide +kernel
theorem d_RR_readAtom_104 : decode b_RR_readAtom 104 = .ok (.aload_n 0, 1) := by decide +kernel
theorem d_RR_readAtom_105 : decode b_RR_readAtom 105 = .ok (.invokevirtual 135, 3) := by decide +kernel
theorem d_RR_readAtom_108 : decode b_RR_readAtom 108 = .ok (.ireturn, 1) := by decide +kernel
theorem d_RR_readAtom_109 : decode b_RR_readAtom 109 = .ok (.aload_n 0, 1) := by decide +kernel
theorem d_RR_readAtom_110 : decode b_RR_readAtom 110 = .ok (.bipush 89, 2) := by decide +kernel
theorem d_RR_readAtom_112 : decode b_RR_readAtom 112 = .ok (.invokevirtual 58, 3) := by decide +kernel
theorem d_RR_readAtom_115 : decode b_RR_readAtom 115 = .ok (.ifCond .eq 14, 3) := by decide +kernel
theorem d_RR_readAtom_118 : decode b_RR_readAtom 118 = .ok (.aload_n 0, 1) := by decide +kernel
theorem d_RR_readAtom_119 : decode b_RR_readAtom 119 = .ok (.invokevirtual 138, 3) := by decide +kernel
theorem d_RR_readAtom_122 : decode b_RR_readAtom 122 = .ok (.ifCond .eq 7, 3) := by decide +kernel
theorem d_RR_readAtom_125 : decode b_RR_readAtom 125 = .ok (.iconst 1, 1) := by decide +kernel
theorem d_RR_readAtom_126 : decode b_RR_readAtom 126 = .ok (.goto 4, 3) := by decide +kernel
theorem d_RR_readAtom_129 : decode b_RR_readAtom 129 = .ok (.iconst 0, 1) := by decide +kernel
theorem d_RR_readAtom_130 : decode b_RR_readAtom 130 = .ok (.ireturn, 1) := by decide +kernel
theorem d_RR_readWeekdays_0 : decode b_RR_readWeekdays 0 = .ok (.iconst 0, 1) := by decide +kernel
theorem d_RR_readWeekdays_1 : decode b_RR_readWeekdays 1 = .ok (.istore_n 1, 1) := by decide +kernel
theorem d_RR_readWeekdays_2 : decode b_RR_readWeekdays 2 = .ok (.iconst 0, 1) := by decide +kernel
theorem d_RR_readWeekdays_3 : decode b_RR_readWeekdays 3 = .ok (.istore_n 2, 1) := by decide +kernel
theorem d_RR_readWeekdays_4 : decode b_RR_readWeekdays 4 = .ok (.iconst 0, 1) := by decide +kernel
theorem d_RR_readWeekdays_5 : decode b_RR_readWeekdays 5 = .ok (.istore_n 3, 1) := by decide +kernel
theorem d_RR_readWeekdays_6 : decode b_RR_readWeekdays 6 = .ok (.iload_n 3, 1) := by decide +kernel
theorem d_RR_readWeekdays_7 : decode b_RR_readWeekdays 7 = .ok (.bipush 7, 2) := by decide +kernel
theorem d_RR_readWeekdays_9 : decode b_RR_readWeekdays 9 = .ok (.if_icmp .ge 40, 3) := by decide +kernel
theorem d_RR_readWeekdays_12 : decode b_RR_readWeekdays 12 = .ok (.aload_n 0, 1) := by decide +kernel
theorem d_RR_readWeekdays_13 : decode b_RR_readWeekdays 13 = .ok (.iconst 1, 1) := by decide +kernel
theorem d_RR_readWeekdays_14 : decode b_RR_readWeekdays 14 = .ok (.iload_n 2, 1) := by decide +kernel
theorem d_RR_readWeekdays_15 : decode b_RR_readWeekdays 15 = .ok (.iconst 1, 1) := by decide +kernel
theorem d_RR_readWeekdays_16 : decode b_RR_readWeekdays 16 = .ok (.iadd, 1) := by decide +kernel
theorem d_RR_readWeekdays_17 : decode b_RR_readWeekdays 17 = .ok (.bipush 7, 2) := by decide +kernel
theorem d_RR_readWeekdays_19 : decode b_RR_readWeekdays 19 = .ok (.invokevirtual 62, 3) := by decide +kernel
theorem d_RR_readWeekdays_22 : decode b_RR_readWeekdays 22 = .ok (.istore 4, 2) := by decide +kernel
theorem d_RR_readWeekdays_24 : decode b_RR_readWeekdays 24 = .ok (.iload 4, 2) := by decide +kernel
theorem d_RR_readWeekdays_26 : decode b_RR_readWeekdays 26 = .ok (.iconst (-1), 1) := by decide +kernel
theorem d_RR_readWeekdays_27 : decode b_RR_readWeekdays 27 = .ok (.if_icmp .ne 6, 3) := by decide +kernel
theorem d_RR_readWeekdays_30 : decode b_RR_readWeekdays 30 = .ok (.goto 19, 3) := by decide +kernel
theorem d_RR_readWeekdays_33 : decode b_RR_readWeekdays 33 = .ok (.iload_n 1, 1) := by decide +kernel
theorem d_RR_readWeekdays_34 : decode b_RR_readWeekdays 34 = .ok (.iconst 1, 1) := by decide +kernel
theorem d_RR_readWeekdays_35 : decode b_RR_readWeekdays 35 = .ok (.iload 4, 2) := by decide +kernel
theorem d_RR_readWeekdays_37 : decode b_RR_readWeekdays 37 = .ok (.ishl, 1) := by decide +kernel
theorem d_RR_readWeekdays_38 : decode b_RR_readWeekdays 38 = .ok (.ior, 1) := by decide +kernel
theorem d_RR_readWeekdays_39 : decode b_RR_readWeekdays 39 = .ok (.istore_n 1, 1) := by decide +kernel
theorem d_RR_readWeekdays_40 : decode b_RR_readWeekdays 40 = .ok (.iload 4, 2) := by decide +kernel
theorem d_RR_readWeekdays_42 : decode b_RR_readWeekdays 42 = .ok (.istore_n 2, 1) := by decide +kernel
theorem d_RR_readWeekdays_43 : decode b_RR_readWeekdays 43 = .ok (.iinc 3 1, 3) := by decide +kernel
theorem d_RR_readWeekdays_46 : decode b_RR_readWeekdays 46 = .ok (.goto (-40), 3) := by decide +kernel
theorem d_RR_readWeekdays_49 : decode b_RR_readWeekdays 49 = .ok (.aload_n 0, 1) := by decide +kernel
theorem d_RR_readWeekdays_50 : decode b_RR_readWeekdays 50 = .ok (.getfield 34, 3) := by decide +kernel
theorem d_RR_readWeekdays_53 : decode b_RR_readWeekdays 53 = .ok (.bipush 87, 2) := by decide +kernel
theorem d_RR_readWeekdays_55 : decode b_RR_readWeekdays 55 = .ok (.iload_n 1, 1) := by decide +kernel
theorem d_RR_readWeekdays_56 : decode b_RR_readWeekdays 56 = .ok (.iconst 0, 1) := by decide +kernel
theorem d_RR_readWeekdays_57 : decode b_RR_readWeekdays 57 = .ok (.invokevirtual 128, 3) := by decide +kernel
theorem d_RR_readWeekdays_60 : decode b_RR_readWeekdays 60 = .ok (.iload_n 2, 1) := by decide +kernel
theorem d_RR_readWeekdays_61 : decode b_RR_readWeekdays 61 = .ok (.ifCond .le 7, 3) := by decide +kernel
theorem d_RR_readWeekdays_64 : decode b_RR_readWeekdays 64 = .ok (.iconst 1, 1) := by decide +kernel
theorem d_RR_readWeekdays_65 : decode b_RR_readWeekdays 65 = .ok (.goto 4, 3) := by decide +kernel
theorem d_RR_readWeekdays_68 : decode b_RR_readWeekdays 68 = .ok (.iconst 0, 1) := by decide +kernel
theorem d_RR_readWeekdays_69 : decode b_RR_readWeekdays 69 = .ok (.ireturn, 1) := by decide +kernel
