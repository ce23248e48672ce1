theorem d_MD_push_0 : decode b_MD_push 0 = .ok (.aload_n 0, 1) := by decide +kernel
theorem d_MD_push_1 : decode b_MD_push 1 = .ok (.getfield 34, 3) := by decide +kernel
theorem d_MD_push_4 : decode b_MD_push 4 = .ok (.aload_n 0, 1) := by decide +kernel
theorem d_MD_push_5 : decode b_MD_push 5 = .ok (.getfield 90, 3) := by decide +kernel
theorem d_MD_push_8 : decode b_MD_push 8 = .ok (.iload_n 1, 1) := by decide +kernel
theorem d_MD_push_9 : decode b_MD_push 9 = .ok (.iastore, 1) := by decide +kernel
theorem d_MD_push_10 : decode b_MD_push 10 = .ok (.aload_n 0, 1) := by decide +kernel
theorem d_MD_push_11 : decode b_MD_push 11 = .ok (.getfield 37, 3) := by decide +kernel
theorem d_MD_push_14 : decode b_MD_push 14 = .ok (.aload_n 0, 1) := by decide +kernel
theorem d_MD_push_15 : decode b_MD_push 15 = .ok (.getfield 90, 3) := by decide +kernel
theorem d_MD_push_18 : decode b_MD_push 18 = .ok (.iload_n 2, 1) := by decide +kernel
theorem d_MD_push_19 : decode b_MD_push 19 = .ok (.iastore, 1) := by decide +kernel
theorem d_MD_push_20 : decode b_MD_push 20 = .ok (.aload_n 0, 1) := by decide +kernel
theorem d_MD_push_21 : decode b_MD_push 21 = .ok (.getfield 40, 3) := by decide +kernel
theorem d_MD_push_24 : decode b_MD_push 24 = .ok (.aload_n 0, 1) := by decide +kernel
theorem d_MD_push_25 : decode b_MD_push 25 = .ok (.getfield 90, 3) := by decide +kernel
theorem d_MD_push_28 : decode b_MD_push 28 = .ok (.iload_n 3, 1) := by decide +kernel
theorem d_MD_push_29 : decode b_MD_push 29 = .ok (.iastore, 1) := by decide +kernel
theorem d_MD_push_30 : decode b_MD_push 30 = .ok (.aload_n 0, 1) := by decide +kernel
theorem d_MD_push_31 : decode b_MD_push 31 = .ok (.dup, 1) := by decide +kernel
theorem d_MD_push_32 : decode b_MD_push 32 = .ok (.getfield 90, 3) := by decide +kernel
theorem d_MD_push_35 : decode b_MD_push 35 = .ok (.iconst 1, 1) := by decide +kernel
theorem d_MD_push_36 : decode b_MD_push 36 = .ok (.iadd, 1) := by decide +kernel
theorem d_MD_push_37 : decode b_MD_push 37 = .ok (.putfield 90, 3) := by decide +kernel
theorem d_MD_push_40 : decode b_MD_push 40 = .ok (.return_, 1) := by decide +kernel
theorem d_MD_emit_0 : decode b_MD_emit 0 = .ok (.aload_n 0, 1) := by decide +kernel
theorem d_MD_emit_1 : decode b_MD_emit 1 = .ok (.getfield 55, 3) := by decide +kernel
theorem d_MD_emit_4 : decode b_MD_emit 4 = .ok (.aload_n 0, 1) := by decide +kernel
theorem d_MD_emit_5 : decode b_MD_emit 5 = .ok (.getfield 93, 3) := by decide +kernel
theorem d_MD_emit_8 : decode b_MD_emit 8 = .ok (.iload_n 1, 1) := by decide +kernel
theorem d_MD_emit_9 : decode b_MD_emit 9 = .ok (.iastore, 1) := by decide +kernel
theorem d_MD_emit_10 : decode b_MD_emit 10 = .ok (.aload_n 0, 1) := by decide +kernel
theorem d_MD_emit_11 : decode b_MD_emit 11 = .ok (.dup, 1) := by decide +kernel
theorem d_MD_emit_12 : decode b_MD_emit 12 = .ok (.getfield 93, 3) := by decide +kernel
theorem d_MD_emit_15 : decode b_MD_emit 15 = .ok (.iconst 1, 1) := by decide +kernel
theorem d_MD_emit_16 : decode b_MD_emit 16 = .ok (.iadd, 1) := by decide +kernel
theorem d_MD_emit_17 : decode b_MD_emit 17 = .ok (.putfield 93, 3) := by decide +kernel
theorem d_MD_emit_20 : decode b_MD_emit 20 = .ok (.return_, 1) := by decide +kernel
theorem d_MD_newAtom_0 : decode b_MD_newAtom 0 = .ok (.aload_n 0, 1) := by decide +kernel
theorem d_MD_newAtom_1 : decode b_MD_newAtom 1 = .ok (.getfield 58, 3) := by decide +kernel
theorem d_MD_newAtom_4 : decode b_MD_newAtom 4 = .ok (.aload_n 0, 1) := by decide +kernel
theorem d_MD_newAtom_5 : decode b_MD_newAtom 5 = .ok (.getfield 96, 3) := by decide +kernel
theorem d_MD_newAtom_8 : decode b_MD_newAtom 8 = .ok (.iload_n 1, 1) := by decide +kernel
theorem d_MD_newAtom_9 : decode b_MD_newAtom 9 = .ok (.iastore, 1) := by decide +kernel
theorem d_MD_newAtom_10 : decode b_MD_newAtom 10 = .ok (.aload_n 0, 1) := by decide +kernel
theorem d_MD_newAtom_11 : decode b_MD_newAtom 11 = .ok (.getfield 61, 3) := by decide +kernel
theorem d_MD_newAtom_14 : decode b_MD_newAtom 14 = .ok (.aload_n 0, 1) := by decide +kernel
theorem d_MD_newAtom_15 : decode b_MD_newAtom 15 = .ok (.getfield 96, 3) := by decide +kernel
theorem d_MD_newAtom_18 : decode b_MD_newAtom 18 = .ok (.iconst 0, 1) := by decide +kernel
theorem d_MD_newAtom_19 : decode b_MD_newAtom 19 = .ok (.iastore, 1) := by decide +kernel
theorem d_MD_newAtom_20 : decode b_MD_newAtom 20 = .ok (.aload_n 0, 1) := by decide +kernel
theorem d_MD_newAtom_21 : decode b_MD_newAtom 21 = .ok (.getfield 64, 3) := by decide +kernel
theorem d_MD_newAtom_24 : decode b_MD_newAtom 24 = .ok (.aload_n 0, 1) := by decide +kernel
theorem d_MD_newAtom_25 : decode b_MD_newAtom 25 = .ok (.getfield 96, 3) := by decide +kernel
theorem d_MD_newAtom_28 : decode b_MD_newAtom 28 = .ok (.iconst 0, 1) := by decide +kernel
theorem d_MD_newAtom_29 : decode b_MD_newAtom 29 = .ok (.iastore, 1) := by decide +kernel
theorem d_MD_newAtom_30 : decode b_MD_newAtom 30 = .ok (.aload_n 0, 1) := by decide +kernel
theorem d_MD_newAtom_31 : decode b_MD_newAtom 31 = .ok (.aload_n 0, 1) := by decide +kernel
theorem d_MD_newAtom_32 : decode b_MD_newAtom 32 = .ok (.getfield 96, 3) := by decide +kernel
theorem d_MD_newAtom_35 : decode b_MD_newAtom 35 = .ok (.invokevirtual 99, 3) := by decide +kernel
theorem d_MD_newAtom_38 : decode b_MD_newAtom 38 = .ok (.aload_n 0, 1) := by decide +kernel
theorem d_MD_newAtom_39 : decode b_MD_newAtom 39 = .ok (.dup, 1) := by decide +kernel
theorem d_MD_newAtom_40 : decode b_MD_newAtom 40 = .ok (.getfield 96, 3) := by decide +kernel
theorem d_MD_newAtom_43 : decode b_MD_newAtom 43 = .ok (.iconst 1, 1) := by decide +kernel
theorem d_MD_newAtom_44 : decode b_MD_newAtom 44 = .ok (.iadd, 1) := by decide +kernel
theorem d_MD_newAtom_45 : decode b_MD_newAtom 45 = .ok (.putfield 96, 3) := by decide +kernel
theorem d_MD_newAtom_48 : decode b_MD_newAtom 48 = .ok (.aload_n 0, 1) := by decide +kernel
theorem d_MD_newAtom_49 : decode b_MD_newAtom 49 = .ok (.getfield 96, 3) := by decide +kernel
theorem d_MD_newAtom_52 : decode b_MD_newAtom 52 = .ok (.iconst 1, 1) := by decide +kernel
theorem d_MD_newAtom_53 : decode b_MD_newAtom 53 = .ok (.isub, 1) := by decide +kernel
theorem d_MD_newAtom_54 : decode b_MD_newAtom 54 = .ok (.ireturn, 1) := by decide +kernel
theorem d_MD_beginRule_0 : decode b_MD_beginRule 0 = .ok (.iload_n 1, 1) := by decide +kernel
theorem d_MD_beginRule_1 : decode b_MD_beginRule 1 = .ok (.bipush 48, 2) := by decide +kernel
theorem d_MD_beginRule_3 : decode b_MD_beginRule 3 = .ok (.bipush 57, 2) := by decide +kernel
theorem d_MD_beginRule_5 : decode b_MD_beginRule 5 = .ok (.invokestatic 124, 3) := by decide +kernel
theorem d_MD_beginRule_8 : decode b_MD_beginRule 8 = .ok (.ifCond .ne 5, 3) := by decide +kernel
theorem d_MD_beginRule_11 : decode b_MD_beginRule 11 = .ok (.iconst 0, 1) := by decide +kernel
theorem d_MD_beginRule_12 : decode b_MD_beginRule 12 = .ok (.ireturn, 1) := by decide +kernel
theorem d_MD_beginRule_13 : decode b_MD_beginRule 13 = .ok (.aload_n 0, 1) := by decide +kernel
theorem d_MD_beginRule_14 : decode b_MD_beginRule 14 = .ok (.getfield 43, 3) := by decide +kernel
theorem d_MD_beginRule_17 : decode b_MD_beginRule 17 = .ok (.aload_n 0, 1) := by decide +kernel
theorem d_MD_beginRule_18 : decode b_MD_beginRule 18 = .ok (.getfield 110, 3) := by decide +kernel
theorem d_MD_beginRule_21 : decode b_MD_beginRule 21 = .ok (.iload_n 1, 1) := by decide +kernel
theorem d_MD_beginRule_22 : decode b_MD_beginRule 22 = .ok (.bipush 48, 2) := by decide +kernel
theorem d_MD_beginRule_24 : decode b_MD_beginRule 24 = .ok (.isub, 1) := by decide +kernel
theorem d_MD_beginRule_25 : decode b_MD_beginRule 25 = .ok (.iastore, 1) := by decide +kernel
theorem d_MD_beginRule_26 : decode b_MD_beginRule 26 = .ok (.aload_n 0, 1) := by decide +kernel
theorem d_MD_beginRule_27 : decode b_MD_beginRule 27 = .ok (.getfield 46, 3) := by decide +kernel
theorem d_MD_beginRule_30 : decode b_MD_beginRule 30 = .ok (.aload_n 0, 1) := by decide +kernel
theorem d_MD_beginRule_31 : decode b_MD_beginRule 31 = .ok (.getfield 110, 3) := by decide +kernel
theorem d_MD_beginRule_34 : decode b_MD_beginRule 34 = .ok (.iconst 0, 1) := by decide +kernel
theorem d_MD_beginRule_35 : decode b_MD_beginRule 35 = .ok (.iastore, 1) := by decide +kernel
theorem d_MD_beginRule_36 : decode b_MD_beginRule 36 = .ok (.aload_n 0, 1) := by decide +kernel
theorem d_MD_beginRule_37 : decode b_MD_beginRule 37 = .ok (.getfield 49, 3) := by decide +kernel
theorem d_MD_beginRule_40 : decode b_MD_beginRule 40 = .ok (.aload_n 0, 1) := by decide +kernel
theorem d_MD_beginRule_41 : decode b_MD_beginRule 41 = .ok (.getfield 110, 3) := by decide +kernel
theorem d_MD_beginRule_44 : decode b_MD_beginRule 44 = .ok (.bipush 48, 2) := by decide +kernel
theorem d_MD_beginRule_46 : decode b_MD_beginRule 46 = .ok (.iastore, 1) := by decide +kernel
theorem d_MD_beginRule_47 : decode b_MD_beginRule 47 = .ok (.aload_n 0, 1) := by decide +kernel
theorem d_MD_beginRule_48 : decode b_MD_beginRule 48 = .ok (.dup, 1) := by decide +kernel
theorem d_MD_beginRule_49 : decode b_MD_beginRule 49 = .ok (.getfield 110, 3) := by decide +kernel
theorem d_MD_beginRule_52 : decode b_MD_beginRule 52 = .ok (.iconst 1, 1) := by decide +kernel
theorem d_MD_beginRule_53 : decode b_MD_beginRule 53 = .ok (.iadd, 1) := by decide +kernel
theorem d_MD_beginRule_54 : decode b_MD_beginRule 54 = .ok (.putfield 110, 3) := by decide +kernel
theorem d_MD_beginRule_57 : decode b_MD_beginRule 57 = .ok (.aload_n 0, 1) := by decide +kernel
theorem d_MD_beginRule_58 : decode b_MD_beginRule 58 = .ok (.iconst 3, 1) := by decide +kernel
theorem d_MD_beginRule_59 : decode b_MD_beginRule 59 = .ok (.iconst 0, 1) := by decide +kernel
theorem d_MD_beginRule_60 : decode b_MD_beginRule 60 = .ok (.iconst 0, 1) := by decide +kernel
theorem d_MD_beginRule_61 : decode b_MD_beginRule 61 = .ok (.invokevirtual 106, 3) := by decide +kernel
theorem d_MD_beginRule_64 : decode b_MD_beginRule 64 = .ok (.aload_n 0, 1) := by decide +kernel
theorem d_MD_beginRule_65 : decode b_MD_beginRule 65 = .ok (.iconst 2, 1) := by decide +kernel
theorem d_MD_beginRule_66 : decode b_MD_beginRule 66 = .ok (.iconst 0, 1) := by decide +kernel
theorem d_MD_beginRule_67 : decode b_MD_beginRule 67 = .ok (.iconst 0, 1) := by decide +kernel
theorem d_MD_beginRule_68 : decode b_MD_beginRule 68 = .ok (.invokevirtual 106, 3) := by decide +kernel
theorem d_MD_beginRule_71 : decode b_MD_beginRule 71 = .ok (.aload_n 0, 1) := by decide +kernel
theorem d_MD_beginRule_72 : decode b_MD_beginRule 72 = .ok (.iconst 1, 1) := by decide +kernel
theorem d_MD_beginRule_73 : decode b_MD_beginRule 73 = .ok (.iconst 0, 1) := by decide +kernel
theorem d_MD_beginRule_74 : decode b_MD_beginRule 74 = .ok (.iconst 0, 1) := by decide +kernel
theorem d_MD_beginRule_75 : decode b_MD_beginRule 75 = .ok (.invokevirtual 106, 3) := by decide +kernel
theorem d_MD_beginRule_78 : decode b_MD_beginRule 78 = .ok (.iconst 1, 1) := by decide +kernel
theorem d_MD_beginRule_79 : decode b_MD_beginRule 79 = .ok (.ireturn, 1) := by decide +kernel
theorem d_MD_go_0 : decode b_MD_go 0 = .ok (.iload 4, 2) := by decide +kernel
theorem d_MD_go_2 : decode b_MD_go 2 = .ok (.iload 5, 2) := by decide +kernel
theorem d_MD_go_4 : decode b_MD_go 4 = .ok (.if_icmp .ge 13, 3) := by decide +kernel
theorem d_MD_go_7 : decode b_MD_go 7 = .ok (.aload_n 0, 1) := by decide +kernel
theorem d_MD_go_8 : decode b_MD_go 8 = .ok (.iload_n 2, 1) := by decide +kernel
theorem d_MD_go_9 : decode b_MD_go 9 = .ok (.iload_n 3, 1) := by decide +kernel
theorem d_MD_go_10 : decode b_MD_go 10 = .ok (.iload 4, 2) := by decide +kernel
theorem d_MD_go_12 : decode b_MD_go 12 = .ok (.iconst 1, 1) := by decide +kernel
theorem d_MD_go_13 : decode b_MD_go 13 = .ok (.iadd, 1) := by decide +kernel
theorem d_MD_go_14 : decode b_MD_go 14 = .ok (.invokevirtual 106, 3) := by decide +kernel
theorem d_MD_go_17 : decode b_MD_go 17 = .ok (.iload_n 1, 1) := by decide +kernel
theorem d_MD_go_18 : decode b_MD_go 18 = .ok (.ifCond .eq 7, 3) := by decide +kernel
theorem d_MD_go_21 : decode b_MD_go 21 = .ok (.iconst 1, 1) := by decide +kernel
theorem d_MD_go_22 : decode b_MD_go 22 = .ok (.goto 4, 3) := by decide +kernel
theorem d_MD_go_25 : decode b_MD_go 25 = .ok (.iconst 0, 1) := by decide +kernel
theorem d_MD_go_26 : decode b_MD_go 26 = .ok (.ireturn, 1) := by decide +kernel
