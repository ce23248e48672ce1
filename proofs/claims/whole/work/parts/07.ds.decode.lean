theorem d_CN_get_0 : decode b_CN_get 0 = .ok (.iconst 0, 1) := by decide +kernel
theorem d_CN_get_1 : decode b_CN_get 1 = .ok (.istore_n 3, 1) := by decide +kernel
theorem d_CN_get_2 : decode b_CN_get 2 = .ok (.iconst 0, 1) := by decide +kernel
theorem d_CN_get_3 : decode b_CN_get 3 = .ok (.istore 4, 2) := by decide +kernel
theorem d_CN_get_5 : decode b_CN_get 5 = .ok (.iload 4, 2) := by decide +kernel
theorem d_CN_get_7 : decode b_CN_get 7 = .ok (.iconst 4, 1) := by decide +kernel
theorem d_CN_get_8 : decode b_CN_get 8 = .ok (.if_icmp .ge 29, 3) := by decide +kernel
theorem d_CN_get_11 : decode b_CN_get 11 = .ok (.iload_n 3, 1) := by decide +kernel
theorem d_CN_get_12 : decode b_CN_get 12 = .ok (.aload_n 0, 1) := by decide +kernel
theorem d_CN_get_13 : decode b_CN_get 13 = .ok (.getfield 13, 3) := by decide +kernel
theorem d_CN_get_16 : decode b_CN_get 16 = .ok (.iload 4, 2) := by decide +kernel
theorem d_CN_get_18 : decode b_CN_get 18 = .ok (.aaload, 1) := by decide +kernel
theorem d_CN_get_19 : decode b_CN_get 19 = .ok (.iload_n 1, 1) := by decide +kernel
theorem d_CN_get_20 : decode b_CN_get 20 = .ok (.laload, 1) := by decide +kernel
theorem d_CN_get_21 : decode b_CN_get 21 = .ok (.iload_n 2, 1) := by decide +kernel
theorem d_CN_get_22 : decode b_CN_get 22 = .ok (.lushr, 1) := by decide +kernel
theorem d_CN_get_23 : decode b_CN_get 23 = .ok (.lconst 1, 1) := by decide +kernel
theorem d_CN_get_24 : decode b_CN_get 24 = .ok (.land, 1) := by decide +kernel
theorem d_CN_get_25 : decode b_CN_get 25 = .ok (.l2i, 1) := by decide +kernel
theorem d_CN_get_26 : decode b_CN_get 26 = .ok (.iload 4, 2) := by decide +kernel
theorem d_CN_get_28 : decode b_CN_get 28 = .ok (.ishl, 1) := by decide +kernel
theorem d_CN_get_29 : decode b_CN_get 29 = .ok (.ior, 1) := by decide +kernel
theorem d_CN_get_30 : decode b_CN_get 30 = .ok (.istore_n 3, 1) := by decide +kernel
theorem d_CN_get_31 : decode b_CN_get 31 = .ok (.iinc 4 1, 3) := by decide +kernel
theorem d_CN_get_34 : decode b_CN_get 34 = .ok (.goto (-29), 3) := by decide +kernel
theorem d_CN_get_37 : decode b_CN_get 37 = .ok (.iload_n 3, 1) := by decide +kernel
theorem d_CN_get_38 : decode b_CN_get 38 = .ok (.ireturn, 1) := by decide +kernel
theorem d_CN_cellsWith_0 : decode b_CN_cellsWith 0 = .ok (.ldc2_w 24, 3) := by decide +kernel
theorem d_CN_cellsWith_3 : decode b_CN_cellsWith 3 = .ok (.lstore_n 3, 1) := by decide +kernel
theorem d_CN_cellsWith_4 : decode b_CN_cellsWith 4 = .ok (.iconst 0, 1) := by decide +kernel
theorem d_CN_cellsWith_5 : decode b_CN_cellsWith 5 = .ok (.istore 5, 2) := by decide +kernel
theorem d_CN_cellsWith_7 : decode b_CN_cellsWith 7 = .ok (.iload 5, 2) := by decide +kernel
theorem d_CN_cellsWith_9 : decode b_CN_cellsWith 9 = .ok (.iconst 4, 1) := by decide +kernel
theorem d_CN_cellsWith_10 : decode b_CN_cellsWith 10 = .ok (.if_icmp .ge 46, 3) := by decide +kernel
theorem d_CN_cellsWith_13 : decode b_CN_cellsWith 13 = .ok (.lload_n 3, 1) := by decide +kernel
theorem d_CN_cellsWith_14 : decode b_CN_cellsWith 14 = .ok (.iload_n 2, 1) := by decide +kernel
theorem d_CN_cellsWith_15 : decode b_CN_cellsWith 15 = .ok (.iload 5, 2) := by decide +kernel
theorem d_CN_cellsWith_17 : decode b_CN_cellsWith 17 = .ok (.ishr, 1) := by decide +kernel
theorem d_CN_cellsWith_18 : decode b_CN_cellsWith 18 = .ok (.iconst 1, 1) := by decide +kernel
theorem d_CN_cellsWith_19 : decode b_CN_cellsWith 19 = .ok (.iand, 1) := by decide +kernel
theorem d_CN_cellsWith_20 : decode b_CN_cellsWith 20 = .ok (.ifCond .eq 15, 3) := by decide +kernel
theorem d_CN_cellsWith_23 : decode b_CN_cellsWith 23 = .ok (.aload_n 0, 1) := by decide +kernel
theorem d_CN_cellsWith_24 : decode b_CN_cellsWith 24 = .ok (.getfield 13, 3) := by decide +kernel
theorem d_CN_cellsWith_27 : decode b_CN_cellsWith 27 = .ok (.iload 5, 2) := by decide +kernel
theorem d_CN_cellsWith_29 : decode b_CN_cellsWith 29 = .ok (.aaload, 1) := by decide +kernel
theorem d_CN_cellsWith_30 : decode b_CN_cellsWith 30 = .ok (.iload_n 1, 1) := by decide +kernel
theorem d_CN_cellsWith_31 : decode b_CN_cellsWith 31 = .ok (.laload, 1) := by decide +kernel
theorem d_CN_cellsWith_32 : decode b_CN_cellsWith 32 = .ok (.goto 16, 3) := by decide +kernel
theorem d_CN_cellsWith_35 : decode b_CN_cellsWith 35 = .ok (.aload_n 0, 1) := by decide +kernel
theorem d_CN_cellsWith_36 : decode b_CN_cellsWith 36 = .ok (.getfield 13, 3) := by decide +kernel
theorem d_CN_cellsWith_39 : decode b_CN_cellsWith 39 = .ok (.iload 5, 2) := by decide +kernel
theorem d_CN_cellsWith_41 : decode b_CN_cellsWith 41 = .ok (.aaload, 1) := by decide +kernel
theorem d_CN_cellsWith_42 : decode b_CN_cellsWith 42 = .ok (.iload_n 1, 1) := by decide +kernel
theorem d_CN_cellsWith_43 : decode b_CN_cellsWith 43 = .ok (.laload, 1) := by decide +kernel
theorem d_CN_cellsWith_44 : decode b_CN_cellsWith 44 = .ok (.ldc2_w 22, 3) := by decide +kernel
theorem d_CN_cellsWith_47 : decode b_CN_cellsWith 47 = .ok (.lxor, 1) := by decide +kernel
theorem d_CN_cellsWith_48 : decode b_CN_cellsWith 48 = .ok (.land, 1) := by decide +kernel
theorem d_CN_cellsWith_49 : decode b_CN_cellsWith 49 = .ok (.lstore_n 3, 1) := by decide +kernel
theorem d_CN_cellsWith_50 : decode b_CN_cellsWith 50 = .ok (.iinc 5 1, 3) := by decide +kernel
theorem d_CN_cellsWith_53 : decode b_CN_cellsWith 53 = .ok (.goto (-46), 3) := by decide +kernel
theorem d_CN_cellsWith_56 : decode b_CN_cellsWith 56 = .ok (.lload_n 3, 1) := by decide +kernel
theorem d_CN_cellsWith_57 : decode b_CN_cellsWith 57 = .ok (.lreturn, 1) := by decide +kernel
theorem d_CN_cellsAboveZero_0 : decode b_CN_cellsAboveZero 0 = .ok (.lconst 0, 1) := by decide +kernel
theorem d_CN_cellsAboveZero_1 : decode b_CN_cellsAboveZero 1 = .ok (.lstore_n 2, 1) := by decide +kernel
theorem d_CN_cellsAboveZero_2 : decode b_CN_cellsAboveZero 2 = .ok (.iconst 0, 1) := by decide +kernel
theorem d_CN_cellsAboveZero_3 : decode b_CN_cellsAboveZero 3 = .ok (.istore 4, 2) := by decide +kernel
theorem d_CN_cellsAboveZero_5 : decode b_CN_cellsAboveZero 5 = .ok (.iload 4, 2) := by decide +kernel
theorem d_CN_cellsAboveZero_7 : decode b_CN_cellsAboveZero 7 = .ok (.iconst 4, 1) := by decide +kernel
theorem d_CN_cellsAboveZero_8 : decode b_CN_cellsAboveZero 8 = .ok (.if_icmp .ge 21, 3) := by decide +kernel
theorem d_CN_cellsAboveZero_11 : decode b_CN_cellsAboveZero 11 = .ok (.lload_n 2, 1) := by decide +kernel
theorem d_CN_cellsAboveZero_12 : decode b_CN_cellsAboveZero 12 = .ok (.aload_n 0, 1) := by decide +kernel
theorem d_CN_cellsAboveZero_13 : decode b_CN_cellsAboveZero 13 = .ok (.getfield 13, 3) := by decide +kernel
theorem d_CN_cellsAboveZero_16 : decode b_CN_cellsAboveZero 16 = .ok (.iload 4, 2) := by decide +kernel
theorem d_CN_cellsAboveZero_18 : decode b_CN_cellsAboveZero 18 = .ok (.aaload, 1) := by decide +kernel
theorem d_CN_cellsAboveZero_19 : decode b_CN_cellsAboveZero 19 = .ok (.iload_n 1, 1) := by decide +kernel
theorem d_CN_cellsAboveZero_20 : decode b_CN_cellsAboveZero 20 = .ok (.laload, 1) := by decide +kernel
theorem d_CN_cellsAboveZero_21 : decode b_CN_cellsAboveZero 21 = .ok (.lor, 1) := by decide +kernel
theorem d_CN_cellsAboveZero_22 : decode b_CN_cellsAboveZero 22 = .ok (.lstore_n 2, 1) := by decide +kernel
theorem d_CN_cellsAboveZero_23 : decode b_CN_cellsAboveZero 23 = .ok (.iinc 4 1, 3) := by decide +kernel
theorem d_CN_cellsAboveZero_26 : decode b_CN_cellsAboveZero 26 = .ok (.goto (-21), 3) := by decide +kernel
theorem d_CN_cellsAboveZero_29 : decode b_CN_cellsAboveZero 29 = .ok (.lload_n 2, 1) := by decide +kernel
theorem d_CN_cellsAboveZero_30 : decode b_CN_cellsAboveZero 30 = .ok (.lreturn, 1) := by decide +kernel
theorem d_CN_cellsUnlike_0 : decode b_CN_cellsUnlike 0 = .ok (.lconst 0, 1) := by decide +kernel
theorem d_CN_cellsUnlike_1 : decode b_CN_cellsUnlike 1 = .ok (.lstore_n 3, 1) := by decide +kernel
theorem d_CN_cellsUnlike_2 : decode b_CN_cellsUnlike 2 = .ok (.iconst 0, 1) := by decide +kernel
theorem d_CN_cellsUnlike_3 : decode b_CN_cellsUnlike 3 = .ok (.istore 5, 2) := by decide +kernel
theorem d_CN_cellsUnlike_5 : decode b_CN_cellsUnlike 5 = .ok (.iload 5, 2) := by decide +kernel
theorem d_CN_cellsUnlike_7 : decode b_CN_cellsUnlike 7 = .ok (.iconst 4, 1) := by decide +kernel
theorem d_CN_cellsUnlike_8 : decode b_CN_cellsUnlike 8 = .ok (.if_icmp .ge 31, 3) := by decide +kernel
theorem d_CN_cellsUnlike_11 : decode b_CN_cellsUnlike 11 = .ok (.lload_n 3, 1) := by decide +kernel
theorem d_CN_cellsUnlike_12 : decode b_CN_cellsUnlike 12 = .ok (.aload_n 0, 1) := by decide +kernel
theorem d_CN_cellsUnlike_13 : decode b_CN_cellsUnlike 13 = .ok (.getfield 13, 3) := by decide +kernel
theorem d_CN_cellsUnlike_16 : decode b_CN_cellsUnlike 16 = .ok (.iload 5, 2) := by decide +kernel
theorem d_CN_cellsUnlike_18 : decode b_CN_cellsUnlike 18 = .ok (.aaload, 1) := by decide +kernel
theorem d_CN_cellsUnlike_19 : decode b_CN_cellsUnlike 19 = .ok (.iload_n 2, 1) := by decide +kernel
theorem d_CN_cellsUnlike_20 : decode b_CN_cellsUnlike 20 = .ok (.laload, 1) := by decide +kernel
theorem d_CN_cellsUnlike_21 : decode b_CN_cellsUnlike 21 = .ok (.aload_n 1, 1) := by decide +kernel
theorem d_CN_cellsUnlike_22 : decode b_CN_cellsUnlike 22 = .ok (.getfield 13, 3) := by decide +kernel
theorem d_CN_cellsUnlike_25 : decode b_CN_cellsUnlike 25 = .ok (.iload 5, 2) := by decide +kernel
theorem d_CN_cellsUnlike_27 : decode b_CN_cellsUnlike 27 = .ok (.aaload, 1) := by decide +kernel
theorem d_CN_cellsUnlike_28 : decode b_CN_cellsUnlike 28 = .ok (.iload_n 2, 1) := by decide +kernel
theorem d_CN_cellsUnlike_29 : decode b_CN_cellsUnlike 29 = .ok (.laload, 1) := by decide +kernel
theorem d_CN_cellsUnlike_30 : decode b_CN_cellsUnlike 30 = .ok (.lxor, 1) := by decide +kernel
theorem d_CN_cellsUnlike_31 : decode b_CN_cellsUnlike 31 = .ok (.lor, 1) := by decide +kernel
theorem d_CN_cellsUnlike_32 : decode b_CN_cellsUnlike 32 = .ok (.lstore_n 3, 1) := by decide +kernel
theorem d_CN_cellsUnlike_33 : decode b_CN_cellsUnlike 33 = .ok (.iinc 5 1, 3) := by decide +kernel
theorem d_CN_cellsUnlike_36 : decode b_CN_cellsUnlike 36 = .ok (.goto (-31), 3) := by decide +kernel
theorem d_CN_cellsUnlike_39 : decode b_CN_cellsUnlike 39 = .ok (.lload_n 3, 1) := by decide +kernel
theorem d_CN_cellsUnlike_40 : decode b_CN_cellsUnlike 40 = .ok (.lreturn, 1) := by decide +kernel
theorem d_DS_add_0 : decode b_DS_add 0 = .ok (.aload_n 0, 1) := by decide +kernel
theorem d_DS_add_1 : decode b_DS_add 1 = .ok (.getfield 9, 3) := by decide +kernel
theorem d_DS_add_4 : decode b_DS_add 4 = .ok (.iload_n 1, 1) := by decide +kernel
theorem d_DS_add_5 : decode b_DS_add 5 = .ok (.bipush 6, 2) := by decide +kernel
theorem d_DS_add_7 : decode b_DS_add 7 = .ok (.ishr, 1) := by decide +kernel
theorem d_DS_add_8 : decode b_DS_add 8 = .ok (.dup2, 1) := by decide +kernel
theorem d_DS_add_9 : decode b_DS_add 9 = .ok (.laload, 1) := by decide +kernel
theorem d_DS_add_10 : decode b_DS_add 10 = .ok (.lconst 1, 1) := by decide +kernel
theorem d_DS_add_11 : decode b_DS_add 11 = .ok (.iload_n 1, 1) := by decide +kernel
theorem d_DS_add_12 : decode b_DS_add 12 = .ok (.bipush 63, 2) := by decide +kernel
theorem d_DS_add_14 : decode b_DS_add 14 = .ok (.iand, 1) := by decide +kernel
theorem d_DS_add_15 : decode b_DS_add 15 = .ok (.lshl, 1) := by decide +kernel
theorem d_DS_add_16 : decode b_DS_add 16 = .ok (.lor, 1) := by decide +kernel
theorem d_DS_add_17 : decode b_DS_add 17 = .ok (.lastore, 1) := by decide +kernel
theorem d_DS_add_18 : decode b_DS_add 18 = .ok (.return_, 1) := by decide +kernel
theorem d_DS_has_0 : decode b_DS_has 0 = .ok (.aload_n 0, 1) := by decide +kernel
theorem d_DS_has_1 : decode b_DS_has 1 = .ok (.getfield 9, 3) := by decide +kernel
theorem d_DS_has_4 : decode b_DS_has 4 = .ok (.iload_n 1, 1) := by decide +kernel
theorem d_DS_has_5 : decode b_DS_has 5 = .ok (.bipush 6, 2) := by decide +kernel
theorem d_DS_has_7 : decode b_DS_has 7 = .ok (.ishr, 1) := by decide +kernel
theorem d_DS_has_8 : decode b_DS_has 8 = .ok (.laload, 1) := by decide +kernel
theorem d_DS_has_9 : decode b_DS_has 9 = .ok (.iload_n 1, 1) := by decide +kernel
theorem d_DS_has_10 : decode b_DS_has 10 = .ok (.bipush 63, 2) := by decide +kernel
theorem d_DS_has_12 : decode b_DS_has 12 = .ok (.iand, 1) := by decide +kernel
theorem d_DS_has_13 : decode b_DS_has 13 = .ok (.lushr, 1) := by decide +kernel
theorem d_DS_has_14 : decode b_DS_has 14 = .ok (.lconst 1, 1) := by decide +kernel
theorem d_DS_has_15 : decode b_DS_has 15 = .ok (.land, 1) := by decide +kernel
theorem d_DS_has_16 : decode b_DS_has 16 = .ok (.lconst 0, 1) := by decide +kernel
theorem d_DS_has_17 : decode b_DS_has 17 = .ok (.lcmp, 1) := by decide +kernel
theorem d_DS_has_18 : decode b_DS_has 18 = .ok (.ifCond .eq 7, 3) := by decide +kernel
theorem d_DS_has_21 : decode b_DS_has 21 = .ok (.iconst 1, 1) := by decide +kernel
theorem d_DS_has_22 : decode b_DS_has 22 = .ok (.goto 4, 3) := by decide +kernel
theorem d_DS_has_25 : decode b_DS_has 25 = .ok (.iconst 0, 1) := by decide +kernel
theorem d_DS_has_26 : decode b_DS_has 26 = .ok (.ireturn, 1) := by decide +kernel
theorem d_DS_join_0 : decode b_DS_join 0 = .ok (.iconst 0, 1) := by decide +kernel
theorem d_DS_join_1 : decode b_DS_join 1 = .ok (.istore_n 2, 1) := by decide +kernel
theorem d_DS_join_2 : decode b_DS_join 2 = .ok (.iload_n 2, 1) := by decide +kernel
theorem d_DS_join_3 : decode b_DS_join 3 = .ok (.aload_n 0, 1) := by decide +kernel
theorem d_DS_join_4 : decode b_DS_join 4 = .ok (.getfield 9, 3) := by decide +kernel
theorem d_DS_join_7 : decode b_DS_join 7 = .ok (.arraylength, 1) := by decide +kernel
theorem d_DS_join_8 : decode b_DS_join 8 = .ok (.if_icmp .ge 24, 3) := by decide +kernel
theorem d_DS_join_11 : decode b_DS_join 11 = .ok (.aload_n 0, 1) := by decide +kernel
theorem d_DS_join_12 : decode b_DS_join 12 = .ok (.getfield 9, 3) := by decide +kernel
theorem d_DS_join_15 : decode b_DS_join 15 = .ok (.iload_n 2, 1) := by decide +kernel
theorem d_DS_join_16 : decode b_DS_join 16 = .ok (.dup2, 1) := by decide +kernel
theorem d_DS_join_17 : decode b_DS_join 17 = .ok (.laload, 1) := by decide +kernel
theorem d_DS_join_18 : decode b_DS_join 18 = .ok (.aload_n 1, 1) := by decide +kernel
theorem d_DS_join_19 : decode b_DS_join 19 = .ok (.getfield 9, 3) := by decide +kernel
theorem d_DS_join_22 : decode b_DS_join 22 = .ok (.iload_n 2, 1) := by decide +kernel
theorem d_DS_join_23 : decode b_DS_join 23 = .ok (.laload, 1) := by decide +kernel
theorem d_DS_join_24 : decode b_DS_join 24 = .ok (.lor, 1) := by decide +kernel
theorem d_DS_join_25 : decode b_DS_join 25 = .ok (.lastore, 1) := by decide +kernel
theorem d_DS_join_26 : decode b_DS_join 26 = .ok (.iinc 2 1, 3) := by decide +kernel
theorem d_DS_join_29 : decode b_DS_join 29 = .ok (.goto (-27), 3) := by decide +kernel
theorem d_DS_join_32 : decode b_DS_join 32 = .ok (.return_, 1) := by decide +kernel
theorem d_DS_keep_0 : decode b_DS_keep 0 = .ok (.iconst 0, 1) := by decide +kernel
theorem d_DS_keep_1 : decode b_DS_keep 1 = .ok (.istore_n 3, 1) := by decide +kernel
theorem d_DS_keep_2 : decode b_DS_keep 2 = .ok (.iload_n 3, 1) := by decide +kernel
theorem d_DS_keep_3 : decode b_DS_keep 3 = .ok (.aload_n 0, 1) := by decide +kernel
theorem d_DS_keep_4 : decode b_DS_keep 4 = .ok (.getfield 9, 3) := by decide +kernel
theorem d_DS_keep_7 : decode b_DS_keep 7 = .ok (.arraylength, 1) := by decide +kernel
theorem d_DS_keep_8 : decode b_DS_keep 8 = .ok (.if_icmp .ge 41, 3) := by decide +kernel
theorem d_DS_keep_11 : decode b_DS_keep 11 = .ok (.aload_n 0, 1) := by decide +kernel
theorem d_DS_keep_12 : decode b_DS_keep 12 = .ok (.getfield 9, 3) := by decide +kernel
theorem d_DS_keep_15 : decode b_DS_keep 15 = .ok (.iload_n 3, 1) := by decide +kernel
theorem d_DS_keep_16 : decode b_DS_keep 16 = .ok (.dup2, 1) := by decide +kernel
theorem d_DS_keep_17 : decode b_DS_keep 17 = .ok (.laload, 1) := by decide +kernel
theorem d_DS_keep_18 : decode b_DS_keep 18 = .ok (.iload_n 2, 1) := by decide +kernel
theorem d_DS_keep_19 : decode b_DS_keep 19 = .ok (.ifCond .eq 16, 3) := by decide +kernel
theorem d_DS_keep_22 : decode b_DS_keep 22 = .ok (.aload_n 1, 1) := by decide +kernel
theorem d_DS_keep_23 : decode b_DS_keep 23 = .ok (.getfield 9, 3) := by decide +kernel
theorem d_DS_keep_26 : decode b_DS_keep 26 = .ok (.iload_n 3, 1) := by decide +kernel
theorem d_DS_keep_27 : decode b_DS_keep 27 = .ok (.laload, 1) := by decide +kernel
theorem d_DS_keep_28 : decode b_DS_keep 28 = .ok (.ldc2_w 21, 3) := by decide +kernel
theorem d_DS_keep_31 : decode b_DS_keep 31 = .ok (.lxor, 1) := by decide +kernel
theorem d_DS_keep_32 : decode b_DS_keep 32 = .ok (.goto 9, 3) := by decide +kernel
theorem d_DS_keep_35 : decode b_DS_keep 35 = .ok (.aload_n 1, 1) := by decide +kernel
theorem d_DS_keep_36 : decode b_DS_keep 36 = .ok (.getfield 9, 3) := by decide +kernel
theorem d_DS_keep_39 : decode b_DS_keep 39 = .ok (.iload_n 3, 1) := by decide +kernel
theorem d_DS_keep_40 : decode b_DS_keep 40 = .ok (.laload, 1) := by decide +kernel
theorem d_DS_keep_41 : decode b_DS_keep 41 = .ok (.land, 1) := by decide +kernel
theorem d_DS_keep_42 : decode b_DS_keep 42 = .ok (.lastore, 1) := by decide +kernel
theorem d_DS_keep_43 : decode b_DS_keep 43 = .ok (.iinc 3 1, 3) := by decide +kernel
theorem d_DS_keep_46 : decode b_DS_keep 46 = .ok (.goto (-44), 3) := by decide +kernel
theorem d_DS_keep_49 : decode b_DS_keep 49 = .ok (.return_, 1) := by decide +kernel
