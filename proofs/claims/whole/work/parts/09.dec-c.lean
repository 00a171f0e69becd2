/-! decode rows (by walk.py) -/
theorem d_Tree_init_0 : decode c_Tree_init 0 = .ok (.aload_n 0, 1) := by decide +kernel
theorem d_Tree_init_1 : decode c_Tree_init 1 = .ok (.invokespecial 1, 3) := by decide +kernel
theorem d_Tree_init_4 : decode c_Tree_init 4 = .ok (.aload_n 0, 1) := by decide +kernel
theorem d_Tree_init_5 : decode c_Tree_init 5 = .ok (.bipush 12, 2) := by decide +kernel
theorem d_Tree_init_7 : decode c_Tree_init 7 = .ok (.anewarray 9, 3) := by decide +kernel
theorem d_Tree_init_10 : decode c_Tree_init 10 = .ok (.putfield 11, 3) := by decide +kernel
theorem d_Tree_init_13 : decode c_Tree_init 13 = .ok (.aload_n 0, 1) := by decide +kernel
theorem d_Tree_init_14 : decode c_Tree_init 14 = .ok (.bipush 30, 2) := by decide +kernel
theorem d_Tree_init_16 : decode c_Tree_init 16 = .ok (.anewarray 15, 3) := by decide +kernel
theorem d_Tree_init_19 : decode c_Tree_init 19 = .ok (.putfield 17, 3) := by decide +kernel
theorem d_Tree_init_22 : decode c_Tree_init 22 = .ok (.return_, 1) := by decide +kernel
theorem d_Tree_findOpen_0 : decode c_Tree_findOpen 0 = .ok (.aload_n 0, 1) := by decide +kernel
theorem d_Tree_findOpen_1 : decode c_Tree_findOpen 1 = .ok (.iload_n 1, 1) := by decide +kernel
theorem d_Tree_findOpen_2 : decode c_Tree_findOpen 2 = .ok (.invokevirtual 28, 3) := by decide +kernel
theorem d_Tree_findOpen_5 : decode c_Tree_findOpen 5 = .ok (.astore_n 2, 1) := by decide +kernel
theorem d_Tree_findOpen_6 : decode c_Tree_findOpen 6 = .ok (.aload_n 2, 1) := by decide +kernel
theorem d_Tree_findOpen_7 : decode c_Tree_findOpen 7 = .ok (.ifnull 14, 3) := by decide +kernel
theorem d_Tree_findOpen_10 : decode c_Tree_findOpen 10 = .ok (.aload_n 2, 1) := by decide +kernel
theorem d_Tree_findOpen_11 : decode c_Tree_findOpen 11 = .ok (.getfield 32, 3) := by decide +kernel
theorem d_Tree_findOpen_14 : decode c_Tree_findOpen 14 = .ok (.ifCond .ne 7, 3) := by decide +kernel
theorem d_Tree_findOpen_17 : decode c_Tree_findOpen 17 = .ok (.aload_n 2, 1) := by decide +kernel
theorem d_Tree_findOpen_18 : decode c_Tree_findOpen 18 = .ok (.goto 4, 3) := by decide +kernel
theorem d_Tree_findOpen_21 : decode c_Tree_findOpen 21 = .ok (.aconst_null, 1) := by decide +kernel
theorem d_Tree_findOpen_22 : decode c_Tree_findOpen 22 = .ok (.areturn, 1) := by decide +kernel
theorem d_Tree_find_0 : decode c_Tree_find 0 = .ok (.iload_n 1, 1) := by decide +kernel
theorem d_Tree_find_1 : decode c_Tree_find 1 = .ok (.ifCond .lt 20, 3) := by decide +kernel
theorem d_Tree_find_4 : decode c_Tree_find 4 = .ok (.iload_n 1, 1) := by decide +kernel
theorem d_Tree_find_5 : decode c_Tree_find 5 = .ok (.aload_n 0, 1) := by decide +kernel
theorem d_Tree_find_6 : decode c_Tree_find 6 = .ok (.getfield 21, 3) := by decide +kernel
theorem d_Tree_find_9 : decode c_Tree_find 9 = .ok (.if_icmp .ge 12, 3) := by decide +kernel
theorem d_Tree_find_12 : decode c_Tree_find 12 = .ok (.aload_n 0, 1) := by decide +kernel
theorem d_Tree_find_13 : decode c_Tree_find 13 = .ok (.getfield 11, 3) := by decide +kernel
theorem d_Tree_find_16 : decode c_Tree_find 16 = .ok (.iload_n 1, 1) := by decide +kernel
theorem d_Tree_find_17 : decode c_Tree_find 17 = .ok (.aaload, 1) := by decide +kernel
theorem d_Tree_find_18 : decode c_Tree_find 18 = .ok (.goto 4, 3) := by decide +kernel
theorem d_Tree_find_21 : decode c_Tree_find 21 = .ok (.aconst_null, 1) := by decide +kernel
theorem d_Tree_find_22 : decode c_Tree_find 22 = .ok (.areturn, 1) := by decide +kernel
theorem d_Scope_isKey_0 : decode c_Scope_isKey 0 = .ok (.iload_n 0, 1) := by decide +kernel
theorem d_Scope_isKey_1 : decode c_Scope_isKey 1 = .ok (.ifCond .lt 12, 3) := by decide +kernel
theorem d_Scope_isKey_4 : decode c_Scope_isKey 4 = .ok (.iload_n 0, 1) := by decide +kernel
theorem d_Scope_isKey_5 : decode c_Scope_isKey 5 = .ok (.iconst 4, 1) := by decide +kernel
theorem d_Scope_isKey_6 : decode c_Scope_isKey 6 = .ok (.if_icmp .ge 7, 3) := by decide +kernel
theorem d_Scope_isKey_9 : decode c_Scope_isKey 9 = .ok (.iconst 1, 1) := by decide +kernel
theorem d_Scope_isKey_10 : decode c_Scope_isKey 10 = .ok (.goto 4, 3) := by decide +kernel
theorem d_Scope_isKey_13 : decode c_Scope_isKey 13 = .ok (.iconst 0, 1) := by decide +kernel
theorem d_Scope_isKey_14 : decode c_Scope_isKey 14 = .ok (.ireturn, 1) := by decide +kernel
theorem d_Scope_keep_0 : decode c_Scope_keep 0 = .ok (.aload_n 0, 1) := by decide +kernel
theorem d_Scope_keep_1 : decode c_Scope_keep 1 = .ok (.getfield 29, 3) := by decide +kernel
theorem d_Scope_keep_4 : decode c_Scope_keep 4 = .ok (.iload_n 1, 1) := by decide +kernel
theorem d_Scope_keep_5 : decode c_Scope_keep 5 = .ok (.iload_n 2, 1) := by decide +kernel
theorem d_Scope_keep_6 : decode c_Scope_keep 6 = .ok (.iastore, 1) := by decide +kernel
theorem d_Scope_keep_7 : decode c_Scope_keep 7 = .ok (.aload_n 0, 1) := by decide +kernel
theorem d_Scope_keep_8 : decode c_Scope_keep 8 = .ok (.getfield 33, 3) := by decide +kernel
theorem d_Scope_keep_11 : decode c_Scope_keep 11 = .ok (.iload_n 1, 1) := by decide +kernel
theorem d_Scope_keep_12 : decode c_Scope_keep 12 = .ok (.iconst 1, 1) := by decide +kernel
theorem d_Scope_keep_13 : decode c_Scope_keep 13 = .ok (.bastore, 1) := by decide +kernel
theorem d_Scope_keep_14 : decode c_Scope_keep 14 = .ok (.return_, 1) := by decide +kernel
theorem d_Tree_hasOpenBelow_0 : decode c_Tree_hasOpenBelow 0 = .ok (.iconst 0, 1) := by decide +kernel
theorem d_Tree_hasOpenBelow_1 : decode c_Tree_hasOpenBelow 1 = .ok (.istore_n 2, 1) := by decide +kernel
theorem d_Tree_hasOpenBelow_2 : decode c_Tree_hasOpenBelow 2 = .ok (.iload_n 2, 1) := by decide +kernel
theorem d_Tree_hasOpenBelow_3 : decode c_Tree_hasOpenBelow 3 = .ok (.aload_n 0, 1) := by decide +kernel
theorem d_Tree_hasOpenBelow_4 : decode c_Tree_hasOpenBelow 4 = .ok (.getfield 21, 3) := by decide +kernel
theorem d_Tree_hasOpenBelow_7 : decode c_Tree_hasOpenBelow 7 = .ok (.if_icmp .ge 36, 3) := by decide +kernel
theorem d_Tree_hasOpenBelow_10 : decode c_Tree_hasOpenBelow 10 = .ok (.aload_n 0, 1) := by decide +kernel
theorem d_Tree_hasOpenBelow_11 : decode c_Tree_hasOpenBelow 11 = .ok (.getfield 11, 3) := by decide +kernel
theorem d_Tree_hasOpenBelow_14 : decode c_Tree_hasOpenBelow 14 = .ok (.iload_n 2, 1) := by decide +kernel
theorem d_Tree_hasOpenBelow_15 : decode c_Tree_hasOpenBelow 15 = .ok (.aaload, 1) := by decide +kernel
theorem d_Tree_hasOpenBelow_16 : decode c_Tree_hasOpenBelow 16 = .ok (.getfield 32, 3) := by decide +kernel
theorem d_Tree_hasOpenBelow_19 : decode c_Tree_hasOpenBelow 19 = .ok (.ifCond .ne 18, 3) := by decide +kernel
theorem d_Tree_hasOpenBelow_22 : decode c_Tree_hasOpenBelow 22 = .ok (.aload_n 0, 1) := by decide +kernel
theorem d_Tree_hasOpenBelow_23 : decode c_Tree_hasOpenBelow 23 = .ok (.getfield 11, 3) := by decide +kernel
theorem d_Tree_hasOpenBelow_26 : decode c_Tree_hasOpenBelow 26 = .ok (.iload_n 2, 1) := by decide +kernel
theorem d_Tree_hasOpenBelow_27 : decode c_Tree_hasOpenBelow 27 = .ok (.aaload, 1) := by decide +kernel
theorem d_Tree_hasOpenBelow_28 : decode c_Tree_hasOpenBelow 28 = .ok (.aload_n 1, 1) := by decide +kernel
theorem d_Tree_hasOpenBelow_29 : decode c_Tree_hasOpenBelow 29 = .ok (.invokevirtual 54, 3) := by decide +kernel
theorem d_Tree_hasOpenBelow_32 : decode c_Tree_hasOpenBelow 32 = .ok (.ifCond .eq 5, 3) := by decide +kernel
theorem d_Tree_hasOpenBelow_35 : decode c_Tree_hasOpenBelow 35 = .ok (.iconst 1, 1) := by decide +kernel
theorem d_Tree_hasOpenBelow_36 : decode c_Tree_hasOpenBelow 36 = .ok (.ireturn, 1) := by decide +kernel
theorem d_Tree_hasOpenBelow_37 : decode c_Tree_hasOpenBelow 37 = .ok (.iinc 2 1, 3) := by decide +kernel
theorem d_Tree_hasOpenBelow_40 : decode c_Tree_hasOpenBelow 40 = .ok (.goto (-38), 3) := by decide +kernel
theorem d_Tree_hasOpenBelow_43 : decode c_Tree_hasOpenBelow 43 = .ok (.iconst 0, 1) := by decide +kernel
theorem d_Tree_hasOpenBelow_44 : decode c_Tree_hasOpenBelow 44 = .ok (.ireturn, 1) := by decide +kernel
theorem d_Scope_isBelow_0 : decode c_Scope_isBelow 0 = .ok (.aload_n 0, 1) := by decide +kernel
theorem d_Scope_isBelow_1 : decode c_Scope_isBelow 1 = .ok (.getfield 15, 3) := by decide +kernel
theorem d_Scope_isBelow_4 : decode c_Scope_isBelow 4 = .ok (.astore_n 2, 1) := by decide +kernel
theorem d_Scope_isBelow_5 : decode c_Scope_isBelow 5 = .ok (.aload_n 2, 1) := by decide +kernel
theorem d_Scope_isBelow_6 : decode c_Scope_isBelow 6 = .ok (.ifnull 18, 3) := by decide +kernel
theorem d_Scope_isBelow_9 : decode c_Scope_isBelow 9 = .ok (.aload_n 2, 1) := by decide +kernel
theorem d_Scope_isBelow_10 : decode c_Scope_isBelow 10 = .ok (.aload_n 1, 1) := by decide +kernel
theorem d_Scope_isBelow_11 : decode c_Scope_isBelow 11 = .ok (.if_acmp .ne 5, 3) := by decide +kernel
theorem d_Scope_isBelow_14 : decode c_Scope_isBelow 14 = .ok (.iconst 1, 1) := by decide +kernel
theorem d_Scope_isBelow_15 : decode c_Scope_isBelow 15 = .ok (.ireturn, 1) := by decide +kernel
theorem d_Scope_isBelow_16 : decode c_Scope_isBelow 16 = .ok (.aload_n 2, 1) := by decide +kernel
theorem d_Scope_isBelow_17 : decode c_Scope_isBelow 17 = .ok (.getfield 15, 3) := by decide +kernel
theorem d_Scope_isBelow_20 : decode c_Scope_isBelow 20 = .ok (.astore_n 2, 1) := by decide +kernel
theorem d_Scope_isBelow_21 : decode c_Scope_isBelow 21 = .ok (.goto (-16), 3) := by decide +kernel
theorem d_Scope_isBelow_24 : decode c_Scope_isBelow 24 = .ok (.iconst 0, 1) := by decide +kernel
theorem d_Scope_isBelow_25 : decode c_Scope_isBelow 25 = .ok (.ireturn, 1) := by decide +kernel
theorem d_Tree_closeAllThatCan_0 : decode c_Tree_closeAllThatCan 0 = .ok (.aload_n 0, 1) := by decide +kernel
theorem d_Tree_closeAllThatCan_1 : decode c_Tree_closeAllThatCan 1 = .ok (.getfield 21, 3) := by decide +kernel
theorem d_Tree_closeAllThatCan_4 : decode c_Tree_closeAllThatCan 4 = .ok (.iconst 1, 1) := by decide +kernel
theorem d_Tree_closeAllThatCan_5 : decode c_Tree_closeAllThatCan 5 = .ok (.isub, 1) := by decide +kernel
theorem d_Tree_closeAllThatCan_6 : decode c_Tree_closeAllThatCan 6 = .ok (.istore_n 2, 1) := by decide +kernel
theorem d_Tree_closeAllThatCan_7 : decode c_Tree_closeAllThatCan 7 = .ok (.iload_n 2, 1) := by decide +kernel
theorem d_Tree_closeAllThatCan_8 : decode c_Tree_closeAllThatCan 8 = .ok (.ifCond .lt 52, 3) := by decide +kernel
theorem d_Tree_closeAllThatCan_11 : decode c_Tree_closeAllThatCan 11 = .ok (.aload_n 0, 1) := by decide +kernel
theorem d_Tree_closeAllThatCan_12 : decode c_Tree_closeAllThatCan 12 = .ok (.getfield 11, 3) := by decide +kernel
theorem d_Tree_closeAllThatCan_15 : decode c_Tree_closeAllThatCan 15 = .ok (.iload_n 2, 1) := by decide +kernel
theorem d_Tree_closeAllThatCan_16 : decode c_Tree_closeAllThatCan 16 = .ok (.aaload, 1) := by decide +kernel
theorem d_Tree_closeAllThatCan_17 : decode c_Tree_closeAllThatCan 17 = .ok (.astore_n 3, 1) := by decide +kernel
theorem d_Tree_closeAllThatCan_18 : decode c_Tree_closeAllThatCan 18 = .ok (.aload_n 3, 1) := by decide +kernel
theorem d_Tree_closeAllThatCan_19 : decode c_Tree_closeAllThatCan 19 = .ok (.getfield 32, 3) := by decide +kernel
theorem d_Tree_closeAllThatCan_22 : decode c_Tree_closeAllThatCan 22 = .ok (.iconst 1, 1) := by decide +kernel
theorem d_Tree_closeAllThatCan_23 : decode c_Tree_closeAllThatCan 23 = .ok (.if_icmp .ne 31, 3) := by decide +kernel
theorem d_Tree_closeAllThatCan_26 : decode c_Tree_closeAllThatCan 26 = .ok (.aload_n 0, 1) := by decide +kernel
theorem d_Tree_closeAllThatCan_27 : decode c_Tree_closeAllThatCan 27 = .ok (.aload_n 3, 1) := by decide +kernel
theorem d_Tree_closeAllThatCan_28 : decode c_Tree_closeAllThatCan 28 = .ok (.iconst 0, 1) := by decide +kernel
theorem d_Tree_closeAllThatCan_29 : decode c_Tree_closeAllThatCan 29 = .ok (.invokevirtual 99, 3) := by decide +kernel
theorem d_Tree_closeAllThatCan_32 : decode c_Tree_closeAllThatCan 32 = .ok (.ifCond .ne 22, 3) := by decide +kernel
theorem d_Tree_closeAllThatCan_35 : decode c_Tree_closeAllThatCan 35 = .ok (.aload_n 0, 1) := by decide +kernel
theorem d_Tree_closeAllThatCan_36 : decode c_Tree_closeAllThatCan 36 = .ok (.aload_n 3, 1) := by decide +kernel
theorem d_Tree_closeAllThatCan_37 : decode c_Tree_closeAllThatCan 37 = .ok (.invokevirtual 102, 3) := by decide +kernel
theorem d_Tree_closeAllThatCan_40 : decode c_Tree_closeAllThatCan 40 = .ok (.ifCond .ne 14, 3) := by decide +kernel
theorem d_Tree_closeAllThatCan_43 : decode c_Tree_closeAllThatCan 43 = .ok (.aload_n 3, 1) := by decide +kernel
theorem d_Tree_closeAllThatCan_44 : decode c_Tree_closeAllThatCan 44 = .ok (.iconst 2, 1) := by decide +kernel
theorem d_Tree_closeAllThatCan_45 : decode c_Tree_closeAllThatCan 45 = .ok (.putfield 32, 3) := by decide +kernel
theorem d_Tree_closeAllThatCan_48 : decode c_Tree_closeAllThatCan 48 = .ok (.aload_n 0, 1) := by decide +kernel
theorem d_Tree_closeAllThatCan_49 : decode c_Tree_closeAllThatCan 49 = .ok (.aload_n 3, 1) := by decide +kernel
theorem d_Tree_closeAllThatCan_50 : decode c_Tree_closeAllThatCan 50 = .ok (.aload_n 1, 1) := by decide +kernel
theorem d_Tree_closeAllThatCan_51 : decode c_Tree_closeAllThatCan 51 = .ok (.invokevirtual 105, 3) := by decide +kernel
theorem d_Tree_closeAllThatCan_54 : decode c_Tree_closeAllThatCan 54 = .ok (.iinc 2 (-1), 3) := by decide +kernel
theorem d_Tree_closeAllThatCan_57 : decode c_Tree_closeAllThatCan 57 = .ok (.goto (-50), 3) := by decide +kernel
theorem d_Tree_closeAllThatCan_60 : decode c_Tree_closeAllThatCan 60 = .ok (.return_, 1) := by decide +kernel
theorem d_Tree_countTasks_0 : decode c_Tree_countTasks 0 = .ok (.iconst 0, 1) := by decide +kernel
theorem d_Tree_countTasks_1 : decode c_Tree_countTasks 1 = .ok (.istore_n 3, 1) := by decide +kernel
theorem d_Tree_countTasks_2 : decode c_Tree_countTasks 2 = .ok (.iconst 0, 1) := by decide +kernel
theorem d_Tree_countTasks_3 : decode c_Tree_countTasks 3 = .ok (.istore 4, 2) := by decide +kernel
theorem d_Tree_countTasks_5 : decode c_Tree_countTasks 5 = .ok (.iload 4, 2) := by decide +kernel
theorem d_Tree_countTasks_7 : decode c_Tree_countTasks 7 = .ok (.aload_n 0, 1) := by decide +kernel
theorem d_Tree_countTasks_8 : decode c_Tree_countTasks 8 = .ok (.getfield 25, 3) := by decide +kernel
theorem d_Tree_countTasks_11 : decode c_Tree_countTasks 11 = .ok (.if_icmp .ge 40, 3) := by decide +kernel
theorem d_Tree_countTasks_14 : decode c_Tree_countTasks 14 = .ok (.aload_n 0, 1) := by decide +kernel
theorem d_Tree_countTasks_15 : decode c_Tree_countTasks 15 = .ok (.getfield 17, 3) := by decide +kernel
theorem d_Tree_countTasks_18 : decode c_Tree_countTasks 18 = .ok (.iload 4, 2) := by decide +kernel
theorem d_Tree_countTasks_20 : decode c_Tree_countTasks 20 = .ok (.aaload, 1) := by decide +kernel
theorem d_Tree_countTasks_21 : decode c_Tree_countTasks 21 = .ok (.getfield 49, 3) := by decide +kernel
theorem d_Tree_countTasks_24 : decode c_Tree_countTasks 24 = .ok (.aload_n 1, 1) := by decide +kernel
theorem d_Tree_countTasks_25 : decode c_Tree_countTasks 25 = .ok (.if_acmp .ne 20, 3) := by decide +kernel
theorem d_Tree_countTasks_28 : decode c_Tree_countTasks 28 = .ok (.aload_n 0, 1) := by decide +kernel
theorem d_Tree_countTasks_29 : decode c_Tree_countTasks 29 = .ok (.getfield 17, 3) := by decide +kernel
theorem d_Tree_countTasks_32 : decode c_Tree_countTasks 32 = .ok (.iload 4, 2) := by decide +kernel
theorem d_Tree_countTasks_34 : decode c_Tree_countTasks 34 = .ok (.aaload, 1) := by decide +kernel
theorem d_Tree_countTasks_35 : decode c_Tree_countTasks 35 = .ok (.getfield 53, 3) := by decide +kernel
theorem d_Tree_countTasks_38 : decode c_Tree_countTasks 38 = .ok (.iload_n 2, 1) := by decide +kernel
theorem d_Tree_countTasks_39 : decode c_Tree_countTasks 39 = .ok (.if_icmp .ne 6, 3) := by decide +kernel
theorem d_Tree_countTasks_42 : decode c_Tree_countTasks 42 = .ok (.iinc 3 1, 3) := by decide +kernel
theorem d_Tree_countTasks_45 : decode c_Tree_countTasks 45 = .ok (.iinc 4 1, 3) := by decide +kernel
theorem d_Tree_countTasks_48 : decode c_Tree_countTasks 48 = .ok (.goto (-43), 3) := by decide +kernel
theorem d_Tree_countTasks_51 : decode c_Tree_countTasks 51 = .ok (.iload_n 3, 1) := by decide +kernel
theorem d_Tree_countTasks_52 : decode c_Tree_countTasks 52 = .ok (.ireturn, 1) := by decide +kernel
theorem d_Tree_hasUnclosedBelow_0 : decode c_Tree_hasUnclosedBelow 0 = .ok (.iconst 0, 1) := by decide +kernel
theorem d_Tree_hasUnclosedBelow_1 : decode c_Tree_hasUnclosedBelow 1 = .ok (.istore_n 2, 1) := by decide +kernel
theorem d_Tree_hasUnclosedBelow_2 : decode c_Tree_hasUnclosedBelow 2 = .ok (.iload_n 2, 1) := by decide +kernel
theorem d_Tree_hasUnclosedBelow_3 : decode c_Tree_hasUnclosedBelow 3 = .ok (.aload_n 0, 1) := by decide +kernel
theorem d_Tree_hasUnclosedBelow_4 : decode c_Tree_hasUnclosedBelow 4 = .ok (.getfield 21, 3) := by decide +kernel
theorem d_Tree_hasUnclosedBelow_7 : decode c_Tree_hasUnclosedBelow 7 = .ok (.if_icmp .ge 37, 3) := by decide +kernel
theorem d_Tree_hasUnclosedBelow_10 : decode c_Tree_hasUnclosedBelow 10 = .ok (.aload_n 0, 1) := by decide +kernel
theorem d_Tree_hasUnclosedBelow_11 : decode c_Tree_hasUnclosedBelow 11 = .ok (.getfield 11, 3) := by decide +kernel
theorem d_Tree_hasUnclosedBelow_14 : decode c_Tree_hasUnclosedBelow 14 = .ok (.iload_n 2, 1) := by decide +kernel
theorem d_Tree_hasUnclosedBelow_15 : decode c_Tree_hasUnclosedBelow 15 = .ok (.aaload, 1) := by decide +kernel
theorem d_Tree_hasUnclosedBelow_16 : decode c_Tree_hasUnclosedBelow 16 = .ok (.getfield 32, 3) := by decide +kernel
theorem d_Tree_hasUnclosedBelow_19 : decode c_Tree_hasUnclosedBelow 19 = .ok (.iconst 2, 1) := by decide +kernel
theorem d_Tree_hasUnclosedBelow_20 : decode c_Tree_hasUnclosedBelow 20 = .ok (.if_icmp .eq 18, 3) := by decide +kernel
theorem d_Tree_hasUnclosedBelow_23 : decode c_Tree_hasUnclosedBelow 23 = .ok (.aload_n 0, 1) := by decide +kernel
theorem d_Tree_hasUnclosedBelow_24 : decode c_Tree_hasUnclosedBelow 24 = .ok (.getfield 11, 3) := by decide +kernel
theorem d_Tree_hasUnclosedBelow_27 : decode c_Tree_hasUnclosedBelow 27 = .ok (.iload_n 2, 1) := by decide +kernel
theorem d_Tree_hasUnclosedBelow_28 : decode c_Tree_hasUnclosedBelow 28 = .ok (.aaload, 1) := by decide +kernel
theorem d_Tree_hasUnclosedBelow_29 : decode c_Tree_hasUnclosedBelow 29 = .ok (.aload_n 1, 1) := by decide +kernel
theorem d_Tree_hasUnclosedBelow_30 : decode c_Tree_hasUnclosedBelow 30 = .ok (.invokevirtual 54, 3) := by decide +kernel
theorem d_Tree_hasUnclosedBelow_33 : decode c_Tree_hasUnclosedBelow 33 = .ok (.ifCond .eq 5, 3) := by decide +kernel
theorem d_Tree_hasUnclosedBelow_36 : decode c_Tree_hasUnclosedBelow 36 = .ok (.iconst 1, 1) := by decide +kernel
theorem d_Tree_hasUnclosedBelow_37 : decode c_Tree_hasUnclosedBelow 37 = .ok (.ireturn, 1) := by decide +kernel
theorem d_Tree_hasUnclosedBelow_38 : decode c_Tree_hasUnclosedBelow 38 = .ok (.iinc 2 1, 3) := by decide +kernel
theorem d_Tree_hasUnclosedBelow_41 : decode c_Tree_hasUnclosedBelow 41 = .ok (.goto (-39), 3) := by decide +kernel
theorem d_Tree_hasUnclosedBelow_44 : decode c_Tree_hasUnclosedBelow 44 = .ok (.iconst 0, 1) := by decide +kernel
theorem d_Tree_hasUnclosedBelow_45 : decode c_Tree_hasUnclosedBelow 45 = .ok (.ireturn, 1) := by decide +kernel
theorem d_Tree_giveResult_0 : decode c_Tree_giveResult 0 = .ok (.aload_n 1, 1) := by decide +kernel
theorem d_Tree_giveResult_1 : decode c_Tree_giveResult 1 = .ok (.getfield 109, 3) := by decide +kernel
theorem d_Tree_giveResult_4 : decode c_Tree_giveResult 4 = .ok (.getfield 113, 3) := by decide +kernel
theorem d_Tree_giveResult_7 : decode c_Tree_giveResult 7 = .ok (.ifCond .eq 4, 3) := by decide +kernel
theorem d_Tree_giveResult_10 : decode c_Tree_giveResult 10 = .ok (.return_, 1) := by decide +kernel
theorem d_Tree_giveResult_11 : decode c_Tree_giveResult 11 = .ok (.aload_n 1, 1) := by decide +kernel
theorem d_Tree_giveResult_12 : decode c_Tree_giveResult 12 = .ok (.getfield 83, 3) := by decide +kernel
theorem d_Tree_giveResult_15 : decode c_Tree_giveResult 15 = .ok (.ifCond .eq 17, 3) := by decide +kernel
theorem d_Tree_giveResult_18 : decode c_Tree_giveResult 18 = .ok (.aload_n 2, 1) := by decide +kernel
theorem d_Tree_giveResult_19 : decode c_Tree_giveResult 19 = .ok (.aload_n 1, 1) := by decide +kernel
theorem d_Tree_giveResult_20 : decode c_Tree_giveResult 20 = .ok (.getfield 109, 3) := by decide +kernel
theorem d_Tree_giveResult_23 : decode c_Tree_giveResult 23 = .ok (.iconst 2, 1) := by decide +kernel
theorem d_Tree_giveResult_24 : decode c_Tree_giveResult 24 = .ok (.bipush 7, 2) := by decide +kernel
theorem d_Tree_giveResult_26 : decode c_Tree_giveResult 26 = .ok (.invokevirtual 116, 3) := by decide +kernel
theorem d_Tree_giveResult_29 : decode c_Tree_giveResult 29 = .ok (.goto 56, 3) := by decide +kernel
theorem d_Tree_giveResult_32 : decode c_Tree_giveResult 32 = .ok (.aload_n 0, 1) := by decide +kernel
theorem d_Tree_giveResult_33 : decode c_Tree_giveResult 33 = .ok (.aload_n 1, 1) := by decide +kernel
theorem d_Tree_giveResult_34 : decode c_Tree_giveResult 34 = .ok (.invokevirtual 122, 3) := by decide +kernel
theorem d_Tree_giveResult_37 : decode c_Tree_giveResult 37 = .ok (.ifCond .eq 20, 3) := by decide +kernel
theorem d_Tree_giveResult_40 : decode c_Tree_giveResult 40 = .ok (.aload_n 2, 1) := by decide +kernel
theorem d_Tree_giveResult_41 : decode c_Tree_giveResult 41 = .ok (.aload_n 1, 1) := by decide +kernel
theorem d_Tree_giveResult_42 : decode c_Tree_giveResult 42 = .ok (.getfield 109, 3) := by decide +kernel
theorem d_Tree_giveResult_45 : decode c_Tree_giveResult 45 = .ok (.iconst 1, 1) := by decide +kernel
theorem d_Tree_giveResult_46 : decode c_Tree_giveResult 46 = .ok (.aload_n 0, 1) := by decide +kernel
theorem d_Tree_giveResult_47 : decode c_Tree_giveResult 47 = .ok (.aload_n 1, 1) := by decide +kernel
theorem d_Tree_giveResult_48 : decode c_Tree_giveResult 48 = .ok (.invokevirtual 125, 3) := by decide +kernel
theorem d_Tree_giveResult_51 : decode c_Tree_giveResult 51 = .ok (.invokevirtual 116, 3) := by decide +kernel
theorem d_Tree_giveResult_54 : decode c_Tree_giveResult 54 = .ok (.goto 31, 3) := by decide +kernel
theorem d_Tree_giveResult_57 : decode c_Tree_giveResult 57 = .ok (.aload_n 0, 1) := by decide +kernel
theorem d_Tree_giveResult_58 : decode c_Tree_giveResult 58 = .ok (.aload_n 1, 1) := by decide +kernel
theorem d_Tree_giveResult_59 : decode c_Tree_giveResult 59 = .ok (.iconst 2, 1) := by decide +kernel
theorem d_Tree_giveResult_60 : decode c_Tree_giveResult 60 = .ok (.invokevirtual 129, 3) := by decide +kernel
theorem d_Tree_giveResult_63 : decode c_Tree_giveResult 63 = .ok (.astore_n 3, 1) := by decide +kernel
theorem d_Tree_giveResult_64 : decode c_Tree_giveResult 64 = .ok (.aload_n 2, 1) := by decide +kernel
theorem d_Tree_giveResult_65 : decode c_Tree_giveResult 65 = .ok (.aload_n 1, 1) := by decide +kernel
theorem d_Tree_giveResult_66 : decode c_Tree_giveResult 66 = .ok (.getfield 109, 3) := by decide +kernel
theorem d_Tree_giveResult_69 : decode c_Tree_giveResult 69 = .ok (.iconst 2, 1) := by decide +kernel
theorem d_Tree_giveResult_70 : decode c_Tree_giveResult 70 = .ok (.aload_n 3, 1) := by decide +kernel
theorem d_Tree_giveResult_71 : decode c_Tree_giveResult 71 = .ok (.ifnonnull 7, 3) := by decide +kernel
theorem d_Tree_giveResult_74 : decode c_Tree_giveResult 74 = .ok (.iconst 0, 1) := by decide +kernel
theorem d_Tree_giveResult_75 : decode c_Tree_giveResult 75 = .ok (.goto 7, 3) := by decide +kernel
theorem d_Tree_giveResult_78 : decode c_Tree_giveResult 78 = .ok (.aload_n 3, 1) := by decide +kernel
theorem d_Tree_giveResult_79 : decode c_Tree_giveResult 79 = .ok (.getfield 133, 3) := by decide +kernel
theorem d_Tree_giveResult_82 : decode c_Tree_giveResult 82 = .ok (.invokevirtual 116, 3) := by decide +kernel
theorem d_Tree_giveResult_85 : decode c_Tree_giveResult 85 = .ok (.return_, 1) := by decide +kernel
theorem d_Tree_succeeded_0 : decode c_Tree_succeeded 0 = .ok (.aload_n 1, 1) := by decide +kernel
theorem d_Tree_succeeded_1 : decode c_Tree_succeeded 1 = .ok (.getfield 136, 3) := by decide +kernel
theorem d_Tree_succeeded_4 : decode c_Tree_succeeded 4 = .ok (.iconst 2, 1) := by decide +kernel
theorem d_Tree_succeeded_5 : decode c_Tree_succeeded 5 = .ok (.if_icmp .ne 18, 3) := by decide +kernel
theorem d_Tree_succeeded_8 : decode c_Tree_succeeded 8 = .ok (.aload_n 0, 1) := by decide +kernel
theorem d_Tree_succeeded_9 : decode c_Tree_succeeded 9 = .ok (.aload_n 1, 1) := by decide +kernel
theorem d_Tree_succeeded_10 : decode c_Tree_succeeded 10 = .ok (.iconst 1, 1) := by decide +kernel
theorem d_Tree_succeeded_11 : decode c_Tree_succeeded 11 = .ok (.invokevirtual 99, 3) := by decide +kernel
theorem d_Tree_succeeded_14 : decode c_Tree_succeeded 14 = .ok (.ifCond .le 7, 3) := by decide +kernel
theorem d_Tree_succeeded_17 : decode c_Tree_succeeded 17 = .ok (.iconst 1, 1) := by decide +kernel
theorem d_Tree_succeeded_18 : decode c_Tree_succeeded 18 = .ok (.goto 4, 3) := by decide +kernel
theorem d_Tree_succeeded_21 : decode c_Tree_succeeded 21 = .ok (.iconst 0, 1) := by decide +kernel
theorem d_Tree_succeeded_22 : decode c_Tree_succeeded 22 = .ok (.ireturn, 1) := by decide +kernel
theorem d_Tree_succeeded_23 : decode c_Tree_succeeded 23 = .ok (.aload_n 0, 1) := by decide +kernel
theorem d_Tree_succeeded_24 : decode c_Tree_succeeded 24 = .ok (.aload_n 1, 1) := by decide +kernel
theorem d_Tree_succeeded_25 : decode c_Tree_succeeded 25 = .ok (.iconst 2, 1) := by decide +kernel
theorem d_Tree_succeeded_26 : decode c_Tree_succeeded 26 = .ok (.invokevirtual 99, 3) := by decide +kernel
theorem d_Tree_succeeded_29 : decode c_Tree_succeeded 29 = .ok (.ifCond .ne 16, 3) := by decide +kernel
theorem d_Tree_succeeded_32 : decode c_Tree_succeeded 32 = .ok (.aload_n 0, 1) := by decide +kernel
theorem d_Tree_succeeded_33 : decode c_Tree_succeeded 33 = .ok (.aload_n 1, 1) := by decide +kernel
theorem d_Tree_succeeded_34 : decode c_Tree_succeeded 34 = .ok (.iconst 3, 1) := by decide +kernel
theorem d_Tree_succeeded_35 : decode c_Tree_succeeded 35 = .ok (.invokevirtual 99, 3) := by decide +kernel
theorem d_Tree_succeeded_38 : decode c_Tree_succeeded 38 = .ok (.ifCond .ne 7, 3) := by decide +kernel
theorem d_Tree_succeeded_41 : decode c_Tree_succeeded 41 = .ok (.iconst 1, 1) := by decide +kernel
theorem d_Tree_succeeded_42 : decode c_Tree_succeeded 42 = .ok (.goto 4, 3) := by decide +kernel
theorem d_Tree_succeeded_45 : decode c_Tree_succeeded 45 = .ok (.iconst 0, 1) := by decide +kernel
theorem d_Tree_succeeded_46 : decode c_Tree_succeeded 46 = .ok (.ireturn, 1) := by decide +kernel
theorem d_Tree_valueOf_0 : decode c_Tree_valueOf 0 = .ok (.aload_n 1, 1) := by decide +kernel
theorem d_Tree_valueOf_1 : decode c_Tree_valueOf 1 = .ok (.getfield 136, 3) := by decide +kernel
theorem d_Tree_valueOf_4 : decode c_Tree_valueOf 4 = .ok (.iconst 2, 1) := by decide +kernel
theorem d_Tree_valueOf_5 : decode c_Tree_valueOf 5 = .ok (.if_icmp .ne 23, 3) := by decide +kernel
theorem d_Tree_valueOf_8 : decode c_Tree_valueOf 8 = .ok (.aload_n 0, 1) := by decide +kernel
theorem d_Tree_valueOf_9 : decode c_Tree_valueOf 9 = .ok (.aload_n 1, 1) := by decide +kernel
theorem d_Tree_valueOf_10 : decode c_Tree_valueOf 10 = .ok (.iconst 1, 1) := by decide +kernel
theorem d_Tree_valueOf_11 : decode c_Tree_valueOf 11 = .ok (.invokevirtual 129, 3) := by decide +kernel
theorem d_Tree_valueOf_14 : decode c_Tree_valueOf 14 = .ok (.astore_n 2, 1) := by decide +kernel
theorem d_Tree_valueOf_15 : decode c_Tree_valueOf 15 = .ok (.aload_n 2, 1) := by decide +kernel
theorem d_Tree_valueOf_16 : decode c_Tree_valueOf 16 = .ok (.ifnonnull 7, 3) := by decide +kernel
theorem d_Tree_valueOf_19 : decode c_Tree_valueOf 19 = .ok (.iconst 0, 1) := by decide +kernel
theorem d_Tree_valueOf_20 : decode c_Tree_valueOf 20 = .ok (.goto 7, 3) := by decide +kernel
theorem d_Tree_valueOf_23 : decode c_Tree_valueOf 23 = .ok (.aload_n 2, 1) := by decide +kernel
theorem d_Tree_valueOf_24 : decode c_Tree_valueOf 24 = .ok (.getfield 133, 3) := by decide +kernel
theorem d_Tree_valueOf_27 : decode c_Tree_valueOf 27 = .ok (.ireturn, 1) := by decide +kernel
theorem d_Tree_valueOf_28 : decode c_Tree_valueOf 28 = .ok (.iconst 0, 1) := by decide +kernel
theorem d_Tree_valueOf_29 : decode c_Tree_valueOf 29 = .ok (.istore_n 2, 1) := by decide +kernel
theorem d_Tree_valueOf_30 : decode c_Tree_valueOf 30 = .ok (.iconst 0, 1) := by decide +kernel
theorem d_Tree_valueOf_31 : decode c_Tree_valueOf 31 = .ok (.istore_n 3, 1) := by decide +kernel
theorem d_Tree_valueOf_32 : decode c_Tree_valueOf 32 = .ok (.iload_n 3, 1) := by decide +kernel
theorem d_Tree_valueOf_33 : decode c_Tree_valueOf 33 = .ok (.aload_n 0, 1) := by decide +kernel
theorem d_Tree_valueOf_34 : decode c_Tree_valueOf 34 = .ok (.getfield 25, 3) := by decide +kernel
theorem d_Tree_valueOf_37 : decode c_Tree_valueOf 37 = .ok (.if_icmp .ge 47, 3) := by decide +kernel
theorem d_Tree_valueOf_40 : decode c_Tree_valueOf 40 = .ok (.aload_n 0, 1) := by decide +kernel
theorem d_Tree_valueOf_41 : decode c_Tree_valueOf 41 = .ok (.getfield 17, 3) := by decide +kernel
theorem d_Tree_valueOf_44 : decode c_Tree_valueOf 44 = .ok (.iload_n 3, 1) := by decide +kernel
theorem d_Tree_valueOf_45 : decode c_Tree_valueOf 45 = .ok (.aaload, 1) := by decide +kernel
theorem d_Tree_valueOf_46 : decode c_Tree_valueOf 46 = .ok (.getfield 49, 3) := by decide +kernel
theorem d_Tree_valueOf_49 : decode c_Tree_valueOf 49 = .ok (.aload_n 1, 1) := by decide +kernel
theorem d_Tree_valueOf_50 : decode c_Tree_valueOf 50 = .ok (.if_acmp .ne 28, 3) := by decide +kernel
theorem d_Tree_valueOf_53 : decode c_Tree_valueOf 53 = .ok (.aload_n 0, 1) := by decide +kernel
theorem d_Tree_valueOf_54 : decode c_Tree_valueOf 54 = .ok (.getfield 17, 3) := by decide +kernel
theorem d_Tree_valueOf_57 : decode c_Tree_valueOf 57 = .ok (.iload_n 3, 1) := by decide +kernel
theorem d_Tree_valueOf_58 : decode c_Tree_valueOf 58 = .ok (.aaload, 1) := by decide +kernel
theorem d_Tree_valueOf_59 : decode c_Tree_valueOf 59 = .ok (.getfield 53, 3) := by decide +kernel
theorem d_Tree_valueOf_62 : decode c_Tree_valueOf 62 = .ok (.iconst 1, 1) := by decide +kernel
theorem d_Tree_valueOf_63 : decode c_Tree_valueOf 63 = .ok (.if_icmp .ne 15, 3) := by decide +kernel
theorem d_Tree_valueOf_66 : decode c_Tree_valueOf 66 = .ok (.iload_n 2, 1) := by decide +kernel
theorem d_Tree_valueOf_67 : decode c_Tree_valueOf 67 = .ok (.aload_n 0, 1) := by decide +kernel
theorem d_Tree_valueOf_68 : decode c_Tree_valueOf 68 = .ok (.getfield 17, 3) := by decide +kernel
theorem d_Tree_valueOf_71 : decode c_Tree_valueOf 71 = .ok (.iload_n 3, 1) := by decide +kernel
theorem d_Tree_valueOf_72 : decode c_Tree_valueOf 72 = .ok (.aaload, 1) := by decide +kernel
theorem d_Tree_valueOf_73 : decode c_Tree_valueOf 73 = .ok (.getfield 133, 3) := by decide +kernel
theorem d_Tree_valueOf_76 : decode c_Tree_valueOf 76 = .ok (.iadd, 1) := by decide +kernel
theorem d_Tree_valueOf_77 : decode c_Tree_valueOf 77 = .ok (.istore_n 2, 1) := by decide +kernel
theorem d_Tree_valueOf_78 : decode c_Tree_valueOf 78 = .ok (.iinc 3 1, 3) := by decide +kernel
theorem d_Tree_valueOf_81 : decode c_Tree_valueOf 81 = .ok (.goto (-49), 3) := by decide +kernel
theorem d_Tree_valueOf_84 : decode c_Tree_valueOf 84 = .ok (.iload_n 2, 1) := by decide +kernel
theorem d_Tree_valueOf_85 : decode c_Tree_valueOf 85 = .ok (.ireturn, 1) := by decide +kernel
theorem d_Tree_firstEnded_0 : decode c_Tree_firstEnded 0 = .ok (.aconst_null, 1) := by decide +kernel
theorem d_Tree_firstEnded_1 : decode c_Tree_firstEnded 1 = .ok (.astore_n 3, 1) := by decide +kernel
theorem d_Tree_firstEnded_2 : decode c_Tree_firstEnded 2 = .ok (.iconst 0, 1) := by decide +kernel
theorem d_Tree_firstEnded_3 : decode c_Tree_firstEnded 3 = .ok (.istore 4, 2) := by decide +kernel
theorem d_Tree_firstEnded_5 : decode c_Tree_firstEnded 5 = .ok (.iload 4, 2) := by decide +kernel
theorem d_Tree_firstEnded_7 : decode c_Tree_firstEnded 7 = .ok (.aload_n 0, 1) := by decide +kernel
theorem d_Tree_firstEnded_8 : decode c_Tree_firstEnded 8 = .ok (.getfield 25, 3) := by decide +kernel
theorem d_Tree_firstEnded_11 : decode c_Tree_firstEnded 11 = .ok (.if_icmp .ge 55, 3) := by decide +kernel
theorem d_Tree_firstEnded_14 : decode c_Tree_firstEnded 14 = .ok (.aload_n 0, 1) := by decide +kernel
theorem d_Tree_firstEnded_15 : decode c_Tree_firstEnded 15 = .ok (.getfield 17, 3) := by decide +kernel
theorem d_Tree_firstEnded_18 : decode c_Tree_firstEnded 18 = .ok (.iload 4, 2) := by decide +kernel
theorem d_Tree_firstEnded_20 : decode c_Tree_firstEnded 20 = .ok (.aaload, 1) := by decide +kernel
theorem d_Tree_firstEnded_21 : decode c_Tree_firstEnded 21 = .ok (.astore 5, 2) := by decide +kernel
theorem d_Tree_firstEnded_23 : decode c_Tree_firstEnded 23 = .ok (.aload 5, 2) := by decide +kernel
theorem d_Tree_firstEnded_25 : decode c_Tree_firstEnded 25 = .ok (.getfield 49, 3) := by decide +kernel
theorem d_Tree_firstEnded_28 : decode c_Tree_firstEnded 28 = .ok (.aload_n 1, 1) := by decide +kernel
theorem d_Tree_firstEnded_29 : decode c_Tree_firstEnded 29 = .ok (.if_acmp .ne 31, 3) := by decide +kernel
theorem d_Tree_firstEnded_32 : decode c_Tree_firstEnded 32 = .ok (.aload 5, 2) := by decide +kernel
theorem d_Tree_firstEnded_34 : decode c_Tree_firstEnded 34 = .ok (.getfield 53, 3) := by decide +kernel
theorem d_Tree_firstEnded_37 : decode c_Tree_firstEnded 37 = .ok (.iload_n 2, 1) := by decide +kernel
theorem d_Tree_firstEnded_38 : decode c_Tree_firstEnded 38 = .ok (.if_icmp .ne 22, 3) := by decide +kernel
theorem d_Tree_firstEnded_41 : decode c_Tree_firstEnded 41 = .ok (.aload_n 3, 1) := by decide +kernel
theorem d_Tree_firstEnded_42 : decode c_Tree_firstEnded 42 = .ok (.ifnull 15, 3) := by decide +kernel
theorem d_Tree_firstEnded_45 : decode c_Tree_firstEnded 45 = .ok (.aload 5, 2) := by decide +kernel
theorem d_Tree_firstEnded_47 : decode c_Tree_firstEnded 47 = .ok (.getfield 92, 3) := by decide +kernel
theorem d_Tree_firstEnded_50 : decode c_Tree_firstEnded 50 = .ok (.aload_n 3, 1) := by decide +kernel
theorem d_Tree_firstEnded_51 : decode c_Tree_firstEnded 51 = .ok (.getfield 92, 3) := by decide +kernel
theorem d_Tree_firstEnded_54 : decode c_Tree_firstEnded 54 = .ok (.if_icmp .ge 6, 3) := by decide +kernel
theorem d_Tree_firstEnded_57 : decode c_Tree_firstEnded 57 = .ok (.aload 5, 2) := by decide +kernel
theorem d_Tree_firstEnded_59 : decode c_Tree_firstEnded 59 = .ok (.astore_n 3, 1) := by decide +kernel
theorem d_Tree_firstEnded_60 : decode c_Tree_firstEnded 60 = .ok (.iinc 4 1, 3) := by decide +kernel
theorem d_Tree_firstEnded_63 : decode c_Tree_firstEnded 63 = .ok (.goto (-58), 3) := by decide +kernel
theorem d_Tree_firstEnded_66 : decode c_Tree_firstEnded 66 = .ok (.aload_n 3, 1) := by decide +kernel
theorem d_Tree_firstEnded_67 : decode c_Tree_firstEnded 67 = .ok (.areturn, 1) := by decide +kernel
theorem d_Tree_stop_0 : decode c_Tree_stop 0 = .ok (.iconst 0, 1) := by decide +kernel
theorem d_Tree_stop_1 : decode c_Tree_stop 1 = .ok (.istore_n 2, 1) := by decide +kernel
theorem d_Tree_stop_2 : decode c_Tree_stop 2 = .ok (.iload_n 2, 1) := by decide +kernel
theorem d_Tree_stop_3 : decode c_Tree_stop 3 = .ok (.aload_n 0, 1) := by decide +kernel
theorem d_Tree_stop_4 : decode c_Tree_stop 4 = .ok (.getfield 21, 3) := by decide +kernel
theorem d_Tree_stop_7 : decode c_Tree_stop 7 = .ok (.if_icmp .ge 47, 3) := by decide +kernel
theorem d_Tree_stop_10 : decode c_Tree_stop 10 = .ok (.aload_n 0, 1) := by decide +kernel
theorem d_Tree_stop_11 : decode c_Tree_stop 11 = .ok (.getfield 11, 3) := by decide +kernel
theorem d_Tree_stop_14 : decode c_Tree_stop 14 = .ok (.iload_n 2, 1) := by decide +kernel
theorem d_Tree_stop_15 : decode c_Tree_stop 15 = .ok (.aaload, 1) := by decide +kernel
theorem d_Tree_stop_16 : decode c_Tree_stop 16 = .ok (.astore_n 3, 1) := by decide +kernel
theorem d_Tree_stop_17 : decode c_Tree_stop 17 = .ok (.aload_n 3, 1) := by decide +kernel
theorem d_Tree_stop_18 : decode c_Tree_stop 18 = .ok (.aload_n 1, 1) := by decide +kernel
theorem d_Tree_stop_19 : decode c_Tree_stop 19 = .ok (.if_acmp .eq 19, 3) := by decide +kernel
theorem d_Tree_stop_22 : decode c_Tree_stop 22 = .ok (.aload_n 3, 1) := by decide +kernel
theorem d_Tree_stop_23 : decode c_Tree_stop 23 = .ok (.getfield 32, 3) := by decide +kernel
theorem d_Tree_stop_26 : decode c_Tree_stop 26 = .ok (.iconst 2, 1) := by decide +kernel
theorem d_Tree_stop_27 : decode c_Tree_stop 27 = .ok (.if_icmp .eq 21, 3) := by decide +kernel
theorem d_Tree_stop_30 : decode c_Tree_stop 30 = .ok (.aload_n 3, 1) := by decide +kernel
theorem d_Tree_stop_31 : decode c_Tree_stop 31 = .ok (.aload_n 1, 1) := by decide +kernel
theorem d_Tree_stop_32 : decode c_Tree_stop 32 = .ok (.invokevirtual 54, 3) := by decide +kernel
theorem d_Tree_stop_35 : decode c_Tree_stop 35 = .ok (.ifCond .eq 13, 3) := by decide +kernel
theorem d_Tree_stop_38 : decode c_Tree_stop 38 = .ok (.aload_n 3, 1) := by decide +kernel
theorem d_Tree_stop_39 : decode c_Tree_stop 39 = .ok (.iconst 1, 1) := by decide +kernel
theorem d_Tree_stop_40 : decode c_Tree_stop 40 = .ok (.putfield 58, 3) := by decide +kernel
theorem d_Tree_stop_43 : decode c_Tree_stop 43 = .ok (.aload_n 0, 1) := by decide +kernel
theorem d_Tree_stop_44 : decode c_Tree_stop 44 = .ok (.aload_n 3, 1) := by decide +kernel
theorem d_Tree_stop_45 : decode c_Tree_stop 45 = .ok (.invokevirtual 62, 3) := by decide +kernel
theorem d_Tree_stop_48 : decode c_Tree_stop 48 = .ok (.iinc 2 1, 3) := by decide +kernel
theorem d_Tree_stop_51 : decode c_Tree_stop 51 = .ok (.goto (-49), 3) := by decide +kernel
theorem d_Tree_stop_54 : decode c_Tree_stop 54 = .ok (.return_, 1) := by decide +kernel
theorem d_Tree_cancelTasks_0 : decode c_Tree_cancelTasks 0 = .ok (.iconst 0, 1) := by decide +kernel
theorem d_Tree_cancelTasks_1 : decode c_Tree_cancelTasks 1 = .ok (.istore_n 2, 1) := by decide +kernel
theorem d_Tree_cancelTasks_2 : decode c_Tree_cancelTasks 2 = .ok (.iload_n 2, 1) := by decide +kernel
theorem d_Tree_cancelTasks_3 : decode c_Tree_cancelTasks 3 = .ok (.aload_n 0, 1) := by decide +kernel
theorem d_Tree_cancelTasks_4 : decode c_Tree_cancelTasks 4 = .ok (.getfield 25, 3) := by decide +kernel
theorem d_Tree_cancelTasks_7 : decode c_Tree_cancelTasks 7 = .ok (.if_icmp .ge 44, 3) := by decide +kernel
theorem d_Tree_cancelTasks_10 : decode c_Tree_cancelTasks 10 = .ok (.aload_n 0, 1) := by decide +kernel
theorem d_Tree_cancelTasks_11 : decode c_Tree_cancelTasks 11 = .ok (.getfield 17, 3) := by decide +kernel
theorem d_Tree_cancelTasks_14 : decode c_Tree_cancelTasks 14 = .ok (.iload_n 2, 1) := by decide +kernel
theorem d_Tree_cancelTasks_15 : decode c_Tree_cancelTasks 15 = .ok (.aaload, 1) := by decide +kernel
theorem d_Tree_cancelTasks_16 : decode c_Tree_cancelTasks 16 = .ok (.getfield 49, 3) := by decide +kernel
theorem d_Tree_cancelTasks_19 : decode c_Tree_cancelTasks 19 = .ok (.aload_n 1, 1) := by decide +kernel
theorem d_Tree_cancelTasks_20 : decode c_Tree_cancelTasks 20 = .ok (.if_acmp .ne 25, 3) := by decide +kernel
theorem d_Tree_cancelTasks_23 : decode c_Tree_cancelTasks 23 = .ok (.aload_n 0, 1) := by decide +kernel
theorem d_Tree_cancelTasks_24 : decode c_Tree_cancelTasks 24 = .ok (.getfield 17, 3) := by decide +kernel
theorem d_Tree_cancelTasks_27 : decode c_Tree_cancelTasks 27 = .ok (.iload_n 2, 1) := by decide +kernel
theorem d_Tree_cancelTasks_28 : decode c_Tree_cancelTasks 28 = .ok (.aaload, 1) := by decide +kernel
theorem d_Tree_cancelTasks_29 : decode c_Tree_cancelTasks 29 = .ok (.getfield 53, 3) := by decide +kernel
theorem d_Tree_cancelTasks_32 : decode c_Tree_cancelTasks 32 = .ok (.ifCond .ne 13, 3) := by decide +kernel
theorem d_Tree_cancelTasks_35 : decode c_Tree_cancelTasks 35 = .ok (.aload_n 0, 1) := by decide +kernel
theorem d_Tree_cancelTasks_36 : decode c_Tree_cancelTasks 36 = .ok (.getfield 17, 3) := by decide +kernel
theorem d_Tree_cancelTasks_39 : decode c_Tree_cancelTasks 39 = .ok (.iload_n 2, 1) := by decide +kernel
theorem d_Tree_cancelTasks_40 : decode c_Tree_cancelTasks 40 = .ok (.aaload, 1) := by decide +kernel
theorem d_Tree_cancelTasks_41 : decode c_Tree_cancelTasks 41 = .ok (.iconst 3, 1) := by decide +kernel
theorem d_Tree_cancelTasks_42 : decode c_Tree_cancelTasks 42 = .ok (.putfield 53, 3) := by decide +kernel
theorem d_Tree_cancelTasks_45 : decode c_Tree_cancelTasks 45 = .ok (.iinc 2 1, 3) := by decide +kernel
theorem d_Tree_cancelTasks_48 : decode c_Tree_cancelTasks 48 = .ok (.goto (-46), 3) := by decide +kernel
theorem d_Tree_cancelTasks_51 : decode c_Tree_cancelTasks 51 = .ok (.return_, 1) := by decide +kernel
theorem d_Tree_passOneTick_0 : decode c_Tree_passOneTick 0 = .ok (.aload_n 0, 1) := by decide +kernel
theorem d_Tree_passOneTick_1 : decode c_Tree_passOneTick 1 = .ok (.dup, 1) := by decide +kernel
theorem d_Tree_passOneTick_2 : decode c_Tree_passOneTick 2 = .ok (.getfield 66, 3) := by decide +kernel
theorem d_Tree_passOneTick_5 : decode c_Tree_passOneTick 5 = .ok (.iconst 1, 1) := by decide +kernel
theorem d_Tree_passOneTick_6 : decode c_Tree_passOneTick 6 = .ok (.iadd, 1) := by decide +kernel
theorem d_Tree_passOneTick_7 : decode c_Tree_passOneTick 7 = .ok (.putfield 66, 3) := by decide +kernel
theorem d_Tree_passOneTick_10 : decode c_Tree_passOneTick 10 = .ok (.aload_n 0, 1) := by decide +kernel
theorem d_Tree_passOneTick_11 : decode c_Tree_passOneTick 11 = .ok (.invokevirtual 69, 3) := by decide +kernel
theorem d_Tree_passOneTick_14 : decode c_Tree_passOneTick 14 = .ok (.iconst 0, 1) := by decide +kernel
theorem d_Tree_passOneTick_15 : decode c_Tree_passOneTick 15 = .ok (.istore_n 1, 1) := by decide +kernel
theorem d_Tree_passOneTick_16 : decode c_Tree_passOneTick 16 = .ok (.iconst 0, 1) := by decide +kernel
theorem d_Tree_passOneTick_17 : decode c_Tree_passOneTick 17 = .ok (.istore_n 2, 1) := by decide +kernel
theorem d_Tree_passOneTick_18 : decode c_Tree_passOneTick 18 = .ok (.iload_n 2, 1) := by decide +kernel
theorem d_Tree_passOneTick_19 : decode c_Tree_passOneTick 19 = .ok (.aload_n 0, 1) := by decide +kernel
theorem d_Tree_passOneTick_20 : decode c_Tree_passOneTick 20 = .ok (.getfield 25, 3) := by decide +kernel
theorem d_Tree_passOneTick_23 : decode c_Tree_passOneTick 23 = .ok (.if_icmp .ge 55, 3) := by decide +kernel
theorem d_Tree_passOneTick_26 : decode c_Tree_passOneTick 26 = .ok (.aload_n 0, 1) := by decide +kernel
theorem d_Tree_passOneTick_27 : decode c_Tree_passOneTick 27 = .ok (.getfield 17, 3) := by decide +kernel
theorem d_Tree_passOneTick_30 : decode c_Tree_passOneTick 30 = .ok (.iload_n 2, 1) := by decide +kernel
theorem d_Tree_passOneTick_31 : decode c_Tree_passOneTick 31 = .ok (.aaload, 1) := by decide +kernel
theorem d_Tree_passOneTick_32 : decode c_Tree_passOneTick 32 = .ok (.getfield 53, 3) := by decide +kernel
theorem d_Tree_passOneTick_35 : decode c_Tree_passOneTick 35 = .ok (.ifCond .ne 37, 3) := by decide +kernel
theorem d_Tree_passOneTick_38 : decode c_Tree_passOneTick 38 = .ok (.aload_n 0, 1) := by decide +kernel
theorem d_Tree_passOneTick_39 : decode c_Tree_passOneTick 39 = .ok (.getfield 17, 3) := by decide +kernel
theorem d_Tree_passOneTick_42 : decode c_Tree_passOneTick 42 = .ok (.iload_n 2, 1) := by decide +kernel
theorem d_Tree_passOneTick_43 : decode c_Tree_passOneTick 43 = .ok (.aaload, 1) := by decide +kernel
theorem d_Tree_passOneTick_44 : decode c_Tree_passOneTick 44 = .ok (.invokevirtual 72, 3) := by decide +kernel
theorem d_Tree_passOneTick_47 : decode c_Tree_passOneTick 47 = .ok (.aload_n 0, 1) := by decide +kernel
theorem d_Tree_passOneTick_48 : decode c_Tree_passOneTick 48 = .ok (.getfield 17, 3) := by decide +kernel
theorem d_Tree_passOneTick_51 : decode c_Tree_passOneTick 51 = .ok (.iload_n 2, 1) := by decide +kernel
theorem d_Tree_passOneTick_52 : decode c_Tree_passOneTick 52 = .ok (.aaload, 1) := by decide +kernel
theorem d_Tree_passOneTick_53 : decode c_Tree_passOneTick 53 = .ok (.getfield 53, 3) := by decide +kernel
theorem d_Tree_passOneTick_56 : decode c_Tree_passOneTick 56 = .ok (.ifCond .eq 16, 3) := by decide +kernel
theorem d_Tree_passOneTick_59 : decode c_Tree_passOneTick 59 = .ok (.aload_n 0, 1) := by decide +kernel
theorem d_Tree_passOneTick_60 : decode c_Tree_passOneTick 60 = .ok (.aload_n 0, 1) := by decide +kernel
theorem d_Tree_passOneTick_61 : decode c_Tree_passOneTick 61 = .ok (.getfield 17, 3) := by decide +kernel
theorem d_Tree_passOneTick_64 : decode c_Tree_passOneTick 64 = .ok (.iload_n 2, 1) := by decide +kernel
theorem d_Tree_passOneTick_65 : decode c_Tree_passOneTick 65 = .ok (.aaload, 1) := by decide +kernel
theorem d_Tree_passOneTick_66 : decode c_Tree_passOneTick 66 = .ok (.invokevirtual 75, 3) := by decide +kernel
theorem d_Tree_passOneTick_69 : decode c_Tree_passOneTick 69 = .ok (.iinc 1 1, 3) := by decide +kernel
theorem d_Tree_passOneTick_72 : decode c_Tree_passOneTick 72 = .ok (.iinc 2 1, 3) := by decide +kernel
theorem d_Tree_passOneTick_75 : decode c_Tree_passOneTick 75 = .ok (.goto (-57), 3) := by decide +kernel
theorem d_Tree_passOneTick_78 : decode c_Tree_passOneTick 78 = .ok (.iload_n 1, 1) := by decide +kernel
theorem d_Tree_passOneTick_79 : decode c_Tree_passOneTick 79 = .ok (.ireturn, 1) := by decide +kernel
theorem d_Tree_stopLateScopes_0 : decode c_Tree_stopLateScopes 0 = .ok (.iconst 0, 1) := by decide +kernel
theorem d_Tree_stopLateScopes_1 : decode c_Tree_stopLateScopes 1 = .ok (.istore_n 1, 1) := by decide +kernel
theorem d_Tree_stopLateScopes_2 : decode c_Tree_stopLateScopes 2 = .ok (.iload_n 1, 1) := by decide +kernel
theorem d_Tree_stopLateScopes_3 : decode c_Tree_stopLateScopes 3 = .ok (.aload_n 0, 1) := by decide +kernel
theorem d_Tree_stopLateScopes_4 : decode c_Tree_stopLateScopes 4 = .ok (.getfield 21, 3) := by decide +kernel
theorem d_Tree_stopLateScopes_7 : decode c_Tree_stopLateScopes 7 = .ok (.if_icmp .ge 45, 3) := by decide +kernel
theorem d_Tree_stopLateScopes_10 : decode c_Tree_stopLateScopes 10 = .ok (.aload_n 0, 1) := by decide +kernel
theorem d_Tree_stopLateScopes_11 : decode c_Tree_stopLateScopes 11 = .ok (.getfield 11, 3) := by decide +kernel
theorem d_Tree_stopLateScopes_14 : decode c_Tree_stopLateScopes 14 = .ok (.iload_n 1, 1) := by decide +kernel
theorem d_Tree_stopLateScopes_15 : decode c_Tree_stopLateScopes 15 = .ok (.aaload, 1) := by decide +kernel
theorem d_Tree_stopLateScopes_16 : decode c_Tree_stopLateScopes 16 = .ok (.astore_n 2, 1) := by decide +kernel
theorem d_Tree_stopLateScopes_17 : decode c_Tree_stopLateScopes 17 = .ok (.aload_n 2, 1) := by decide +kernel
theorem d_Tree_stopLateScopes_18 : decode c_Tree_stopLateScopes 18 = .ok (.getfield 32, 3) := by decide +kernel
theorem d_Tree_stopLateScopes_21 : decode c_Tree_stopLateScopes 21 = .ok (.iconst 2, 1) := by decide +kernel
theorem d_Tree_stopLateScopes_22 : decode c_Tree_stopLateScopes 22 = .ok (.if_icmp .eq 24, 3) := by decide +kernel
theorem d_Tree_stopLateScopes_25 : decode c_Tree_stopLateScopes 25 = .ok (.aload_n 2, 1) := by decide +kernel
theorem d_Tree_stopLateScopes_26 : decode c_Tree_stopLateScopes 26 = .ok (.aload_n 0, 1) := by decide +kernel
theorem d_Tree_stopLateScopes_27 : decode c_Tree_stopLateScopes 27 = .ok (.getfield 66, 3) := by decide +kernel
theorem d_Tree_stopLateScopes_30 : decode c_Tree_stopLateScopes 30 = .ok (.invokevirtual 79, 3) := by decide +kernel
theorem d_Tree_stopLateScopes_33 : decode c_Tree_stopLateScopes 33 = .ok (.ifCond .eq 13, 3) := by decide +kernel
theorem d_Tree_stopLateScopes_36 : decode c_Tree_stopLateScopes 36 = .ok (.aload_n 2, 1) := by decide +kernel
theorem d_Tree_stopLateScopes_37 : decode c_Tree_stopLateScopes 37 = .ok (.iconst 1, 1) := by decide +kernel
theorem d_Tree_stopLateScopes_38 : decode c_Tree_stopLateScopes 38 = .ok (.putfield 83, 3) := by decide +kernel
theorem d_Tree_stopLateScopes_41 : decode c_Tree_stopLateScopes 41 = .ok (.aload_n 0, 1) := by decide +kernel
theorem d_Tree_stopLateScopes_42 : decode c_Tree_stopLateScopes 42 = .ok (.aload_n 2, 1) := by decide +kernel
theorem d_Tree_stopLateScopes_43 : decode c_Tree_stopLateScopes 43 = .ok (.invokevirtual 86, 3) := by decide +kernel
theorem d_Tree_stopLateScopes_46 : decode c_Tree_stopLateScopes 46 = .ok (.iinc 1 1, 3) := by decide +kernel
theorem d_Tree_stopLateScopes_49 : decode c_Tree_stopLateScopes 49 = .ok (.goto (-47), 3) := by decide +kernel
theorem d_Tree_stopLateScopes_52 : decode c_Tree_stopLateScopes 52 = .ok (.return_, 1) := by decide +kernel
theorem d_Scope_isPastDeadline_0 : decode c_Scope_isPastDeadline 0 = .ok (.aload_n 0, 1) := by decide +kernel
theorem d_Scope_isPastDeadline_1 : decode c_Scope_isPastDeadline 1 = .ok (.getfield 22, 3) := by decide +kernel
theorem d_Scope_isPastDeadline_4 : decode c_Scope_isPastDeadline 4 = .ok (.iconst (-1), 1) := by decide +kernel
theorem d_Scope_isPastDeadline_5 : decode c_Scope_isPastDeadline 5 = .ok (.if_icmp .eq 15, 3) := by decide +kernel
theorem d_Scope_isPastDeadline_8 : decode c_Scope_isPastDeadline 8 = .ok (.aload_n 0, 1) := by decide +kernel
theorem d_Scope_isPastDeadline_9 : decode c_Scope_isPastDeadline 9 = .ok (.getfield 22, 3) := by decide +kernel
theorem d_Scope_isPastDeadline_12 : decode c_Scope_isPastDeadline 12 = .ok (.iload_n 1, 1) := by decide +kernel
theorem d_Scope_isPastDeadline_13 : decode c_Scope_isPastDeadline 13 = .ok (.if_icmp .gt 7, 3) := by decide +kernel
theorem d_Scope_isPastDeadline_16 : decode c_Scope_isPastDeadline 16 = .ok (.iconst 1, 1) := by decide +kernel
theorem d_Scope_isPastDeadline_17 : decode c_Scope_isPastDeadline 17 = .ok (.goto 4, 3) := by decide +kernel
theorem d_Scope_isPastDeadline_20 : decode c_Scope_isPastDeadline 20 = .ok (.iconst 0, 1) := by decide +kernel
theorem d_Scope_isPastDeadline_21 : decode c_Scope_isPastDeadline 21 = .ok (.ireturn, 1) := by decide +kernel
theorem d_Task_workOnce_0 : decode c_Task_workOnce 0 = .ok (.aload_n 0, 1) := by decide +kernel
theorem d_Task_workOnce_1 : decode c_Task_workOnce 1 = .ok (.dup, 1) := by decide +kernel
theorem d_Task_workOnce_2 : decode c_Task_workOnce 2 = .ok (.getfield 35, 3) := by decide +kernel
theorem d_Task_workOnce_5 : decode c_Task_workOnce 5 = .ok (.iconst 1, 1) := by decide +kernel
theorem d_Task_workOnce_6 : decode c_Task_workOnce 6 = .ok (.iadd, 1) := by decide +kernel
theorem d_Task_workOnce_7 : decode c_Task_workOnce 7 = .ok (.putfield 35, 3) := by decide +kernel
theorem d_Task_workOnce_10 : decode c_Task_workOnce 10 = .ok (.aload_n 0, 1) := by decide +kernel
theorem d_Task_workOnce_11 : decode c_Task_workOnce 11 = .ok (.getfield 35, 3) := by decide +kernel
theorem d_Task_workOnce_14 : decode c_Task_workOnce 14 = .ok (.aload_n 0, 1) := by decide +kernel
theorem d_Task_workOnce_15 : decode c_Task_workOnce 15 = .ok (.getfield 13, 3) := by decide +kernel
theorem d_Task_workOnce_18 : decode c_Task_workOnce 18 = .ok (.if_icmp .ge 4, 3) := by decide +kernel
theorem d_Task_workOnce_21 : decode c_Task_workOnce 21 = .ok (.return_, 1) := by decide +kernel
theorem d_Task_workOnce_22 : decode c_Task_workOnce 22 = .ok (.aload_n 0, 1) := by decide +kernel
theorem d_Task_workOnce_23 : decode c_Task_workOnce 23 = .ok (.getfield 17, 3) := by decide +kernel
theorem d_Task_workOnce_26 : decode c_Task_workOnce 26 = .ok (.aload_n 0, 1) := by decide +kernel
theorem d_Task_workOnce_27 : decode c_Task_workOnce 27 = .ok (.getfield 20, 3) := by decide +kernel
theorem d_Task_workOnce_30 : decode c_Task_workOnce 30 = .ok (.aload_n 0, 1) := by decide +kernel
theorem d_Task_workOnce_31 : decode c_Task_workOnce 31 = .ok (.getfield 23, 3) := by decide +kernel
theorem d_Task_workOnce_34 : decode c_Task_workOnce 34 = .ok (.invokestatic 38, 3) := by decide +kernel
theorem d_Task_workOnce_37 : decode c_Task_workOnce 37 = .ok (.istore_n 1, 1) := by decide +kernel
theorem d_Task_workOnce_38 : decode c_Task_workOnce 38 = .ok (.aload_n 0, 1) := by decide +kernel
theorem d_Task_workOnce_39 : decode c_Task_workOnce 39 = .ok (.iload_n 1, 1) := by decide +kernel
theorem d_Task_workOnce_40 : decode c_Task_workOnce 40 = .ok (.ifCond .eq 7, 3) := by decide +kernel
theorem d_Task_workOnce_43 : decode c_Task_workOnce 43 = .ok (.iconst 2, 1) := by decide +kernel
theorem d_Task_workOnce_44 : decode c_Task_workOnce 44 = .ok (.goto 4, 3) := by decide +kernel
theorem d_Task_workOnce_47 : decode c_Task_workOnce 47 = .ok (.iconst 1, 1) := by decide +kernel
theorem d_Task_workOnce_48 : decode c_Task_workOnce 48 = .ok (.putfield 32, 3) := by decide +kernel
theorem d_Task_workOnce_51 : decode c_Task_workOnce 51 = .ok (.aload_n 0, 1) := by decide +kernel
theorem d_Task_workOnce_52 : decode c_Task_workOnce 52 = .ok (.iload_n 1, 1) := by decide +kernel
theorem d_Task_workOnce_53 : decode c_Task_workOnce 53 = .ok (.ifCond .eq 7, 3) := by decide +kernel
theorem d_Task_workOnce_56 : decode c_Task_workOnce 56 = .ok (.iload_n 1, 1) := by decide +kernel
theorem d_Task_workOnce_57 : decode c_Task_workOnce 57 = .ok (.goto 18, 3) := by decide +kernel
theorem d_Task_workOnce_60 : decode c_Task_workOnce 60 = .ok (.aload_n 0, 1) := by decide +kernel
theorem d_Task_workOnce_61 : decode c_Task_workOnce 61 = .ok (.getfield 17, 3) := by decide +kernel
theorem d_Task_workOnce_64 : decode c_Task_workOnce 64 = .ok (.aload_n 0, 1) := by decide +kernel
theorem d_Task_workOnce_65 : decode c_Task_workOnce 65 = .ok (.getfield 20, 3) := by decide +kernel
theorem d_Task_workOnce_68 : decode c_Task_workOnce 68 = .ok (.aload_n 0, 1) := by decide +kernel
theorem d_Task_workOnce_69 : decode c_Task_workOnce 69 = .ok (.getfield 23, 3) := by decide +kernel
theorem d_Task_workOnce_72 : decode c_Task_workOnce 72 = .ok (.invokestatic 44, 3) := by decide +kernel
theorem d_Task_workOnce_75 : decode c_Task_workOnce 75 = .ok (.putfield 47, 3) := by decide +kernel
theorem d_Task_workOnce_78 : decode c_Task_workOnce 78 = .ok (.return_, 1) := by decide +kernel
theorem d_Tree_noteEnd_0 : decode c_Tree_noteEnd 0 = .ok (.aload_n 1, 1) := by decide +kernel
theorem d_Tree_noteEnd_1 : decode c_Tree_noteEnd 1 = .ok (.aload_n 0, 1) := by decide +kernel
theorem d_Tree_noteEnd_2 : decode c_Tree_noteEnd 2 = .ok (.getfield 89, 3) := by decide +kernel
theorem d_Tree_noteEnd_5 : decode c_Tree_noteEnd 5 = .ok (.putfield 92, 3) := by decide +kernel
theorem d_Tree_noteEnd_8 : decode c_Tree_noteEnd 8 = .ok (.aload_n 0, 1) := by decide +kernel
theorem d_Tree_noteEnd_9 : decode c_Tree_noteEnd 9 = .ok (.dup, 1) := by decide +kernel
theorem d_Tree_noteEnd_10 : decode c_Tree_noteEnd 10 = .ok (.getfield 89, 3) := by decide +kernel
theorem d_Tree_noteEnd_13 : decode c_Tree_noteEnd 13 = .ok (.iconst 1, 1) := by decide +kernel
theorem d_Tree_noteEnd_14 : decode c_Tree_noteEnd 14 = .ok (.iadd, 1) := by decide +kernel
theorem d_Tree_noteEnd_15 : decode c_Tree_noteEnd 15 = .ok (.putfield 89, 3) := by decide +kernel
theorem d_Tree_noteEnd_18 : decode c_Tree_noteEnd 18 = .ok (.aload_n 1, 1) := by decide +kernel
theorem d_Tree_noteEnd_19 : decode c_Tree_noteEnd 19 = .ok (.getfield 49, 3) := by decide +kernel
theorem d_Tree_noteEnd_22 : decode c_Tree_noteEnd 22 = .ok (.aload_n 1, 1) := by decide +kernel
theorem d_Tree_noteEnd_23 : decode c_Tree_noteEnd 23 = .ok (.invokevirtual 95, 3) := by decide +kernel
theorem d_Tree_noteEnd_26 : decode c_Tree_noteEnd 26 = .ok (.ifCond .eq 11, 3) := by decide +kernel
theorem d_Tree_noteEnd_29 : decode c_Tree_noteEnd 29 = .ok (.aload_n 0, 1) := by decide +kernel
theorem d_Tree_noteEnd_30 : decode c_Tree_noteEnd 30 = .ok (.aload_n 1, 1) := by decide +kernel
theorem d_Tree_noteEnd_31 : decode c_Tree_noteEnd 31 = .ok (.getfield 49, 3) := by decide +kernel
theorem d_Tree_noteEnd_34 : decode c_Tree_noteEnd 34 = .ok (.invokevirtual 86, 3) := by decide +kernel
theorem d_Tree_noteEnd_37 : decode c_Tree_noteEnd 37 = .ok (.return_, 1) := by decide +kernel
theorem d_Scope_isStoppedBy_0 : decode c_Scope_isStoppedBy 0 = .ok (.aload_n 0, 1) := by decide +kernel
theorem d_Scope_isStoppedBy_1 : decode c_Scope_isStoppedBy 1 = .ok (.getfield 19, 3) := by decide +kernel
theorem d_Scope_isStoppedBy_4 : decode c_Scope_isStoppedBy 4 = .ok (.iconst 1, 1) := by decide +kernel
theorem d_Scope_isStoppedBy_5 : decode c_Scope_isStoppedBy 5 = .ok (.if_icmp .ne 11, 3) := by decide +kernel
theorem d_Scope_isStoppedBy_8 : decode c_Scope_isStoppedBy 8 = .ok (.aload_n 1, 1) := by decide +kernel
theorem d_Scope_isStoppedBy_9 : decode c_Scope_isStoppedBy 9 = .ok (.getfield 46, 3) := by decide +kernel
theorem d_Scope_isStoppedBy_12 : decode c_Scope_isStoppedBy 12 = .ok (.iconst 2, 1) := by decide +kernel
theorem d_Scope_isStoppedBy_13 : decode c_Scope_isStoppedBy 13 = .ok (.if_icmp .eq 19, 3) := by decide +kernel
theorem d_Scope_isStoppedBy_16 : decode c_Scope_isStoppedBy 16 = .ok (.aload_n 0, 1) := by decide +kernel
theorem d_Scope_isStoppedBy_17 : decode c_Scope_isStoppedBy 17 = .ok (.getfield 19, 3) := by decide +kernel
theorem d_Scope_isStoppedBy_20 : decode c_Scope_isStoppedBy 20 = .ok (.iconst 2, 1) := by decide +kernel
theorem d_Scope_isStoppedBy_21 : decode c_Scope_isStoppedBy 21 = .ok (.if_icmp .ne 15, 3) := by decide +kernel
theorem d_Scope_isStoppedBy_24 : decode c_Scope_isStoppedBy 24 = .ok (.aload_n 1, 1) := by decide +kernel
theorem d_Scope_isStoppedBy_25 : decode c_Scope_isStoppedBy 25 = .ok (.getfield 46, 3) := by decide +kernel
theorem d_Scope_isStoppedBy_28 : decode c_Scope_isStoppedBy 28 = .ok (.iconst 1, 1) := by decide +kernel
theorem d_Scope_isStoppedBy_29 : decode c_Scope_isStoppedBy 29 = .ok (.if_icmp .ne 7, 3) := by decide +kernel
theorem d_Scope_isStoppedBy_32 : decode c_Scope_isStoppedBy 32 = .ok (.iconst 1, 1) := by decide +kernel
theorem d_Scope_isStoppedBy_33 : decode c_Scope_isStoppedBy 33 = .ok (.goto 4, 3) := by decide +kernel
theorem d_Scope_isStoppedBy_36 : decode c_Scope_isStoppedBy 36 = .ok (.iconst 0, 1) := by decide +kernel
theorem d_Scope_isStoppedBy_37 : decode c_Scope_isStoppedBy 37 = .ok (.ireturn, 1) := by decide +kernel
theorem d_Tree_findTask_0 : decode c_Tree_findTask 0 = .ok (.iload_n 1, 1) := by decide +kernel
theorem d_Tree_findTask_1 : decode c_Tree_findTask 1 = .ok (.ifCond .lt 20, 3) := by decide +kernel
theorem d_Tree_findTask_4 : decode c_Tree_findTask 4 = .ok (.iload_n 1, 1) := by decide +kernel
theorem d_Tree_findTask_5 : decode c_Tree_findTask 5 = .ok (.aload_n 0, 1) := by decide +kernel
theorem d_Tree_findTask_6 : decode c_Tree_findTask 6 = .ok (.getfield 25, 3) := by decide +kernel
theorem d_Tree_findTask_9 : decode c_Tree_findTask 9 = .ok (.if_icmp .ge 12, 3) := by decide +kernel
theorem d_Tree_findTask_12 : decode c_Tree_findTask 12 = .ok (.aload_n 0, 1) := by decide +kernel
theorem d_Tree_findTask_13 : decode c_Tree_findTask 13 = .ok (.getfield 17, 3) := by decide +kernel
theorem d_Tree_findTask_16 : decode c_Tree_findTask 16 = .ok (.iload_n 1, 1) := by decide +kernel
theorem d_Tree_findTask_17 : decode c_Tree_findTask 17 = .ok (.aaload, 1) := by decide +kernel
theorem d_Tree_findTask_18 : decode c_Tree_findTask 18 = .ok (.goto 4, 3) := by decide +kernel
theorem d_Tree_findTask_21 : decode c_Tree_findTask 21 = .ok (.aconst_null, 1) := by decide +kernel
theorem d_Tree_findTask_22 : decode c_Tree_findTask 22 = .ok (.areturn, 1) := by decide +kernel
theorem d_Tree_isFullOfScopes_0 : decode c_Tree_isFullOfScopes 0 = .ok (.aload_n 0, 1) := by decide +kernel
theorem d_Tree_isFullOfScopes_1 : decode c_Tree_isFullOfScopes 1 = .ok (.getfield 21, 3) := by decide +kernel
theorem d_Tree_isFullOfScopes_4 : decode c_Tree_isFullOfScopes 4 = .ok (.bipush 12, 2) := by decide +kernel
theorem d_Tree_isFullOfScopes_6 : decode c_Tree_isFullOfScopes 6 = .ok (.if_icmp .lt 7, 3) := by decide +kernel
theorem d_Tree_isFullOfScopes_9 : decode c_Tree_isFullOfScopes 9 = .ok (.iconst 1, 1) := by decide +kernel
theorem d_Tree_isFullOfScopes_10 : decode c_Tree_isFullOfScopes 10 = .ok (.goto 4, 3) := by decide +kernel
theorem d_Tree_isFullOfScopes_13 : decode c_Tree_isFullOfScopes 13 = .ok (.iconst 0, 1) := by decide +kernel
theorem d_Tree_isFullOfScopes_14 : decode c_Tree_isFullOfScopes 14 = .ok (.ireturn, 1) := by decide +kernel
theorem d_Tree_addScope_0 : decode c_Tree_addScope 0 = .ok (.aload_n 1, 1) := by decide +kernel
theorem d_Tree_addScope_1 : decode c_Tree_addScope 1 = .ok (.iload_n 3, 1) := by decide +kernel
theorem d_Tree_addScope_2 : decode c_Tree_addScope 2 = .ok (.invokestatic 35, 3) := by decide +kernel
theorem d_Tree_addScope_5 : decode c_Tree_addScope 5 = .ok (.istore 5, 2) := by decide +kernel
theorem d_Tree_addScope_7 : decode c_Tree_addScope 7 = .ok (.aload_n 0, 1) := by decide +kernel
theorem d_Tree_addScope_8 : decode c_Tree_addScope 8 = .ok (.getfield 11, 3) := by decide +kernel
theorem d_Tree_addScope_11 : decode c_Tree_addScope 11 = .ok (.aload_n 0, 1) := by decide +kernel
theorem d_Tree_addScope_12 : decode c_Tree_addScope 12 = .ok (.getfield 21, 3) := by decide +kernel
theorem d_Tree_addScope_15 : decode c_Tree_addScope 15 = .ok (.new 9, 3) := by decide +kernel
theorem d_Tree_addScope_18 : decode c_Tree_addScope 18 = .ok (.dup, 1) := by decide +kernel
theorem d_Tree_addScope_19 : decode c_Tree_addScope 19 = .ok (.aload_n 0, 1) := by decide +kernel
theorem d_Tree_addScope_20 : decode c_Tree_addScope 20 = .ok (.getfield 21, 3) := by decide +kernel
theorem d_Tree_addScope_23 : decode c_Tree_addScope 23 = .ok (.aload_n 1, 1) := by decide +kernel
theorem d_Tree_addScope_24 : decode c_Tree_addScope 24 = .ok (.iload_n 2, 1) := by decide +kernel
theorem d_Tree_addScope_25 : decode c_Tree_addScope 25 = .ok (.iload 5, 2) := by decide +kernel
theorem d_Tree_addScope_27 : decode c_Tree_addScope 27 = .ok (.aload 4, 2) := by decide +kernel
theorem d_Tree_addScope_29 : decode c_Tree_addScope 29 = .ok (.invokespecial 39, 3) := by decide +kernel
theorem d_Tree_addScope_32 : decode c_Tree_addScope 32 = .ok (.aastore, 1) := by decide +kernel
theorem d_Tree_addScope_33 : decode c_Tree_addScope 33 = .ok (.aload_n 0, 1) := by decide +kernel
theorem d_Tree_addScope_34 : decode c_Tree_addScope 34 = .ok (.dup, 1) := by decide +kernel
theorem d_Tree_addScope_35 : decode c_Tree_addScope 35 = .ok (.getfield 21, 3) := by decide +kernel
theorem d_Tree_addScope_38 : decode c_Tree_addScope 38 = .ok (.iconst 1, 1) := by decide +kernel
theorem d_Tree_addScope_39 : decode c_Tree_addScope 39 = .ok (.iadd, 1) := by decide +kernel
theorem d_Tree_addScope_40 : decode c_Tree_addScope 40 = .ok (.putfield 21, 3) := by decide +kernel
theorem d_Tree_addScope_43 : decode c_Tree_addScope 43 = .ok (.aload_n 0, 1) := by decide +kernel
theorem d_Tree_addScope_44 : decode c_Tree_addScope 44 = .ok (.getfield 21, 3) := by decide +kernel
theorem d_Tree_addScope_47 : decode c_Tree_addScope 47 = .ok (.iconst 1, 1) := by decide +kernel
theorem d_Tree_addScope_48 : decode c_Tree_addScope 48 = .ok (.isub, 1) := by decide +kernel
theorem d_Tree_addScope_49 : decode c_Tree_addScope 49 = .ok (.ireturn, 1) := by decide +kernel
theorem d_Scope_effectiveDeadline_0 : decode c_Scope_effectiveDeadline 0 = .ok (.aload_n 0, 1) := by decide +kernel
theorem d_Scope_effectiveDeadline_1 : decode c_Scope_effectiveDeadline 1 = .ok (.ifnull 11, 3) := by decide +kernel
theorem d_Scope_effectiveDeadline_4 : decode c_Scope_effectiveDeadline 4 = .ok (.aload_n 0, 1) := by decide +kernel
theorem d_Scope_effectiveDeadline_5 : decode c_Scope_effectiveDeadline 5 = .ok (.getfield 22, 3) := by decide +kernel
theorem d_Scope_effectiveDeadline_8 : decode c_Scope_effectiveDeadline 8 = .ok (.iconst (-1), 1) := by decide +kernel
theorem d_Scope_effectiveDeadline_9 : decode c_Scope_effectiveDeadline 9 = .ok (.if_icmp .ne 13, 3) := by decide +kernel
theorem d_Scope_effectiveDeadline_12 : decode c_Scope_effectiveDeadline 12 = .ok (.iload_n 1, 1) := by decide +kernel
theorem d_Scope_effectiveDeadline_13 : decode c_Scope_effectiveDeadline 13 = .ok (.ifCond .ge 7, 3) := by decide +kernel
theorem d_Scope_effectiveDeadline_16 : decode c_Scope_effectiveDeadline 16 = .ok (.iconst (-1), 1) := by decide +kernel
theorem d_Scope_effectiveDeadline_17 : decode c_Scope_effectiveDeadline 17 = .ok (.goto 4, 3) := by decide +kernel
theorem d_Scope_effectiveDeadline_20 : decode c_Scope_effectiveDeadline 20 = .ok (.iload_n 1, 1) := by decide +kernel
theorem d_Scope_effectiveDeadline_21 : decode c_Scope_effectiveDeadline 21 = .ok (.ireturn, 1) := by decide +kernel
theorem d_Scope_effectiveDeadline_22 : decode c_Scope_effectiveDeadline 22 = .ok (.iload_n 1, 1) := by decide +kernel
theorem d_Scope_effectiveDeadline_23 : decode c_Scope_effectiveDeadline 23 = .ok (.ifCond .ge 10, 3) := by decide +kernel
theorem d_Scope_effectiveDeadline_26 : decode c_Scope_effectiveDeadline 26 = .ok (.aload_n 0, 1) := by decide +kernel
theorem d_Scope_effectiveDeadline_27 : decode c_Scope_effectiveDeadline 27 = .ok (.getfield 22, 3) := by decide +kernel
theorem d_Scope_effectiveDeadline_30 : decode c_Scope_effectiveDeadline 30 = .ok (.goto 11, 3) := by decide +kernel
theorem d_Scope_effectiveDeadline_33 : decode c_Scope_effectiveDeadline 33 = .ok (.iload_n 1, 1) := by decide +kernel
theorem d_Scope_effectiveDeadline_34 : decode c_Scope_effectiveDeadline 34 = .ok (.aload_n 0, 1) := by decide +kernel
theorem d_Scope_effectiveDeadline_35 : decode c_Scope_effectiveDeadline 35 = .ok (.getfield 22, 3) := by decide +kernel
theorem d_Scope_effectiveDeadline_38 : decode c_Scope_effectiveDeadline 38 = .ok (.invokestatic 40, 3) := by decide +kernel
theorem d_Scope_effectiveDeadline_41 : decode c_Scope_effectiveDeadline 41 = .ok (.ireturn, 1) := by decide +kernel
theorem d_Scope_init_0 : decode c_Scope_init 0 = .ok (.aload_n 0, 1) := by decide +kernel
theorem d_Scope_init_1 : decode c_Scope_init 1 = .ok (.invokespecial 3, 3) := by decide +kernel
theorem d_Scope_init_4 : decode c_Scope_init 4 = .ok (.aload_n 0, 1) := by decide +kernel
theorem d_Scope_init_5 : decode c_Scope_init 5 = .ok (.iload_n 1, 1) := by decide +kernel
theorem d_Scope_init_6 : decode c_Scope_init 6 = .ok (.putfield 9, 3) := by decide +kernel
theorem d_Scope_init_9 : decode c_Scope_init 9 = .ok (.aload_n 0, 1) := by decide +kernel
theorem d_Scope_init_10 : decode c_Scope_init 10 = .ok (.aload_n 2, 1) := by decide +kernel
theorem d_Scope_init_11 : decode c_Scope_init 11 = .ok (.putfield 15, 3) := by decide +kernel
theorem d_Scope_init_14 : decode c_Scope_init 14 = .ok (.aload_n 0, 1) := by decide +kernel
theorem d_Scope_init_15 : decode c_Scope_init 15 = .ok (.iload_n 3, 1) := by decide +kernel
theorem d_Scope_init_16 : decode c_Scope_init 16 = .ok (.putfield 19, 3) := by decide +kernel
theorem d_Scope_init_19 : decode c_Scope_init 19 = .ok (.aload_n 0, 1) := by decide +kernel
theorem d_Scope_init_20 : decode c_Scope_init 20 = .ok (.iload 4, 2) := by decide +kernel
theorem d_Scope_init_22 : decode c_Scope_init 22 = .ok (.putfield 22, 3) := by decide +kernel
theorem d_Scope_init_25 : decode c_Scope_init 25 = .ok (.aload_n 0, 1) := by decide +kernel
theorem d_Scope_init_26 : decode c_Scope_init 26 = .ok (.aload 5, 2) := by decide +kernel
theorem d_Scope_init_28 : decode c_Scope_init 28 = .ok (.putfield 25, 3) := by decide +kernel
theorem d_Scope_init_31 : decode c_Scope_init 31 = .ok (.aload_n 0, 1) := by decide +kernel
theorem d_Scope_init_32 : decode c_Scope_init 32 = .ok (.iconst 4, 1) := by decide +kernel
theorem d_Scope_init_33 : decode c_Scope_init 33 = .ok (.newarray .int, 2) := by decide +kernel
theorem d_Scope_init_35 : decode c_Scope_init 35 = .ok (.putfield 29, 3) := by decide +kernel
theorem d_Scope_init_38 : decode c_Scope_init 38 = .ok (.aload_n 0, 1) := by decide +kernel
theorem d_Scope_init_39 : decode c_Scope_init 39 = .ok (.iconst 4, 1) := by decide +kernel
theorem d_Scope_init_40 : decode c_Scope_init 40 = .ok (.newarray .boolean, 2) := by decide +kernel
theorem d_Scope_init_42 : decode c_Scope_init 42 = .ok (.putfield 33, 3) := by decide +kernel
theorem d_Scope_init_45 : decode c_Scope_init 45 = .ok (.aload_n 0, 1) := by decide +kernel
theorem d_Scope_init_46 : decode c_Scope_init 46 = .ok (.iconst 0, 1) := by decide +kernel
theorem d_Scope_init_47 : decode c_Scope_init 47 = .ok (.putfield 37, 3) := by decide +kernel
theorem d_Scope_init_50 : decode c_Scope_init 50 = .ok (.return_, 1) := by decide +kernel
theorem d_Task_isCost_0 : decode c_Task_isCost 0 = .ok (.iload_n 0, 1) := by decide +kernel
theorem d_Task_isCost_1 : decode c_Task_isCost 1 = .ok (.iconst 1, 1) := by decide +kernel
theorem d_Task_isCost_2 : decode c_Task_isCost 2 = .ok (.if_icmp .lt 13, 3) := by decide +kernel
theorem d_Task_isCost_5 : decode c_Task_isCost 5 = .ok (.iload_n 0, 1) := by decide +kernel
theorem d_Task_isCost_6 : decode c_Task_isCost 6 = .ok (.bipush 50, 2) := by decide +kernel
theorem d_Task_isCost_8 : decode c_Task_isCost 8 = .ok (.if_icmp .gt 7, 3) := by decide +kernel
theorem d_Task_isCost_11 : decode c_Task_isCost 11 = .ok (.iconst 1, 1) := by decide +kernel
theorem d_Task_isCost_12 : decode c_Task_isCost 12 = .ok (.goto 4, 3) := by decide +kernel
theorem d_Task_isCost_15 : decode c_Task_isCost 15 = .ok (.iconst 0, 1) := by decide +kernel
theorem d_Task_isCost_16 : decode c_Task_isCost 16 = .ok (.ireturn, 1) := by decide +kernel
theorem d_Tree_isFullOfTasks_0 : decode c_Tree_isFullOfTasks 0 = .ok (.aload_n 0, 1) := by decide +kernel
theorem d_Tree_isFullOfTasks_1 : decode c_Tree_isFullOfTasks 1 = .ok (.getfield 25, 3) := by decide +kernel
theorem d_Tree_isFullOfTasks_4 : decode c_Tree_isFullOfTasks 4 = .ok (.bipush 30, 2) := by decide +kernel
theorem d_Tree_isFullOfTasks_6 : decode c_Tree_isFullOfTasks 6 = .ok (.if_icmp .lt 7, 3) := by decide +kernel
theorem d_Tree_isFullOfTasks_9 : decode c_Tree_isFullOfTasks 9 = .ok (.iconst 1, 1) := by decide +kernel
theorem d_Tree_isFullOfTasks_10 : decode c_Tree_isFullOfTasks 10 = .ok (.goto 4, 3) := by decide +kernel
theorem d_Tree_isFullOfTasks_13 : decode c_Tree_isFullOfTasks 13 = .ok (.iconst 0, 1) := by decide +kernel
theorem d_Tree_isFullOfTasks_14 : decode c_Tree_isFullOfTasks 14 = .ok (.ireturn, 1) := by decide +kernel
theorem d_Tree_addTask_0 : decode c_Tree_addTask 0 = .ok (.aload_n 0, 1) := by decide +kernel
theorem d_Tree_addTask_1 : decode c_Tree_addTask 1 = .ok (.getfield 17, 3) := by decide +kernel
theorem d_Tree_addTask_4 : decode c_Tree_addTask 4 = .ok (.aload_n 0, 1) := by decide +kernel
theorem d_Tree_addTask_5 : decode c_Tree_addTask 5 = .ok (.getfield 25, 3) := by decide +kernel
theorem d_Tree_addTask_8 : decode c_Tree_addTask 8 = .ok (.new 15, 3) := by decide +kernel
theorem d_Tree_addTask_11 : decode c_Tree_addTask 11 = .ok (.dup, 1) := by decide +kernel
theorem d_Tree_addTask_12 : decode c_Tree_addTask 12 = .ok (.aload_n 1, 1) := by decide +kernel
theorem d_Tree_addTask_13 : decode c_Tree_addTask 13 = .ok (.iload_n 2, 1) := by decide +kernel
theorem d_Tree_addTask_14 : decode c_Tree_addTask 14 = .ok (.iload_n 3, 1) := by decide +kernel
theorem d_Tree_addTask_15 : decode c_Tree_addTask 15 = .ok (.iload 4, 2) := by decide +kernel
theorem d_Tree_addTask_17 : decode c_Tree_addTask 17 = .ok (.aload_n 1, 1) := by decide +kernel
theorem d_Tree_addTask_18 : decode c_Tree_addTask 18 = .ok (.iconst 0, 1) := by decide +kernel
theorem d_Tree_addTask_19 : decode c_Tree_addTask 19 = .ok (.invokevirtual 42, 3) := by decide +kernel
theorem d_Tree_addTask_22 : decode c_Tree_addTask 22 = .ok (.invokespecial 46, 3) := by decide +kernel
theorem d_Tree_addTask_25 : decode c_Tree_addTask 25 = .ok (.aastore, 1) := by decide +kernel
theorem d_Tree_addTask_26 : decode c_Tree_addTask 26 = .ok (.aload_n 0, 1) := by decide +kernel
theorem d_Tree_addTask_27 : decode c_Tree_addTask 27 = .ok (.dup, 1) := by decide +kernel
theorem d_Tree_addTask_28 : decode c_Tree_addTask 28 = .ok (.getfield 25, 3) := by decide +kernel
theorem d_Tree_addTask_31 : decode c_Tree_addTask 31 = .ok (.iconst 1, 1) := by decide +kernel
theorem d_Tree_addTask_32 : decode c_Tree_addTask 32 = .ok (.iadd, 1) := by decide +kernel
theorem d_Tree_addTask_33 : decode c_Tree_addTask 33 = .ok (.putfield 25, 3) := by decide +kernel
theorem d_Tree_addTask_36 : decode c_Tree_addTask 36 = .ok (.aload_n 0, 1) := by decide +kernel
theorem d_Tree_addTask_37 : decode c_Tree_addTask 37 = .ok (.getfield 25, 3) := by decide +kernel
theorem d_Tree_addTask_40 : decode c_Tree_addTask 40 = .ok (.iconst 1, 1) := by decide +kernel
theorem d_Tree_addTask_41 : decode c_Tree_addTask 41 = .ok (.isub, 1) := by decide +kernel
theorem d_Tree_addTask_42 : decode c_Tree_addTask 42 = .ok (.ireturn, 1) := by decide +kernel
theorem d_Scope_lookUp_0 : decode c_Scope_lookUp 0 = .ok (.aload_n 0, 1) := by decide +kernel
theorem d_Scope_lookUp_1 : decode c_Scope_lookUp 1 = .ok (.astore_n 2, 1) := by decide +kernel
theorem d_Scope_lookUp_2 : decode c_Scope_lookUp 2 = .ok (.aload_n 2, 1) := by decide +kernel
theorem d_Scope_lookUp_3 : decode c_Scope_lookUp 3 = .ok (.ifnull 27, 3) := by decide +kernel
theorem d_Scope_lookUp_6 : decode c_Scope_lookUp 6 = .ok (.aload_n 2, 1) := by decide +kernel
theorem d_Scope_lookUp_7 : decode c_Scope_lookUp 7 = .ok (.getfield 33, 3) := by decide +kernel
theorem d_Scope_lookUp_10 : decode c_Scope_lookUp 10 = .ok (.iload_n 1, 1) := by decide +kernel
theorem d_Scope_lookUp_11 : decode c_Scope_lookUp 11 = .ok (.baload, 1) := by decide +kernel
theorem d_Scope_lookUp_12 : decode c_Scope_lookUp 12 = .ok (.ifCond .eq 10, 3) := by decide +kernel
theorem d_Scope_lookUp_15 : decode c_Scope_lookUp 15 = .ok (.aload_n 2, 1) := by decide +kernel
theorem d_Scope_lookUp_16 : decode c_Scope_lookUp 16 = .ok (.getfield 29, 3) := by decide +kernel
theorem d_Scope_lookUp_19 : decode c_Scope_lookUp 19 = .ok (.iload_n 1, 1) := by decide +kernel
theorem d_Scope_lookUp_20 : decode c_Scope_lookUp 20 = .ok (.iaload, 1) := by decide +kernel
theorem d_Scope_lookUp_21 : decode c_Scope_lookUp 21 = .ok (.ireturn, 1) := by decide +kernel
theorem d_Scope_lookUp_22 : decode c_Scope_lookUp 22 = .ok (.aload_n 2, 1) := by decide +kernel
theorem d_Scope_lookUp_23 : decode c_Scope_lookUp 23 = .ok (.getfield 15, 3) := by decide +kernel
theorem d_Scope_lookUp_26 : decode c_Scope_lookUp 26 = .ok (.astore_n 2, 1) := by decide +kernel
theorem d_Scope_lookUp_27 : decode c_Scope_lookUp 27 = .ok (.goto (-25), 3) := by decide +kernel
theorem d_Scope_lookUp_30 : decode c_Scope_lookUp 30 = .ok (.iconst 0, 1) := by decide +kernel
theorem d_Scope_lookUp_31 : decode c_Scope_lookUp 31 = .ok (.ireturn, 1) := by decide +kernel
theorem d_Task_init_0 : decode c_Task_init 0 = .ok (.aload_n 0, 1) := by decide +kernel
theorem d_Task_init_1 : decode c_Task_init 1 = .ok (.invokespecial 1, 3) := by decide +kernel
theorem d_Task_init_4 : decode c_Task_init 4 = .ok (.aload_n 0, 1) := by decide +kernel
theorem d_Task_init_5 : decode c_Task_init 5 = .ok (.aload_n 1, 1) := by decide +kernel
theorem d_Task_init_6 : decode c_Task_init 6 = .ok (.putfield 7, 3) := by decide +kernel
theorem d_Task_init_9 : decode c_Task_init 9 = .ok (.aload_n 0, 1) := by decide +kernel
theorem d_Task_init_10 : decode c_Task_init 10 = .ok (.iload_n 2, 1) := by decide +kernel
theorem d_Task_init_11 : decode c_Task_init 11 = .ok (.putfield 13, 3) := by decide +kernel
theorem d_Task_init_14 : decode c_Task_init 14 = .ok (.aload_n 0, 1) := by decide +kernel
theorem d_Task_init_15 : decode c_Task_init 15 = .ok (.iload_n 3, 1) := by decide +kernel
theorem d_Task_init_16 : decode c_Task_init 16 = .ok (.putfield 17, 3) := by decide +kernel
theorem d_Task_init_19 : decode c_Task_init 19 = .ok (.aload_n 0, 1) := by decide +kernel
theorem d_Task_init_20 : decode c_Task_init 20 = .ok (.iload 4, 2) := by decide +kernel
theorem d_Task_init_22 : decode c_Task_init 22 = .ok (.putfield 20, 3) := by decide +kernel
theorem d_Task_init_25 : decode c_Task_init 25 = .ok (.aload_n 0, 1) := by decide +kernel
theorem d_Task_init_26 : decode c_Task_init 26 = .ok (.iload 5, 2) := by decide +kernel
theorem d_Task_init_28 : decode c_Task_init 28 = .ok (.putfield 23, 3) := by decide +kernel
theorem d_Task_init_31 : decode c_Task_init 31 = .ok (.aload_n 0, 1) := by decide +kernel
theorem d_Task_init_32 : decode c_Task_init 32 = .ok (.aload_n 1, 1) := by decide +kernel
theorem d_Task_init_33 : decode c_Task_init 33 = .ok (.getfield 26, 3) := by decide +kernel
theorem d_Task_init_36 : decode c_Task_init 36 = .ok (.ifCond .eq 7, 3) := by decide +kernel
theorem d_Task_init_39 : decode c_Task_init 39 = .ok (.iconst 3, 1) := by decide +kernel
theorem d_Task_init_40 : decode c_Task_init 40 = .ok (.goto 4, 3) := by decide +kernel
theorem d_Task_init_43 : decode c_Task_init 43 = .ok (.iconst 0, 1) := by decide +kernel
theorem d_Task_init_44 : decode c_Task_init 44 = .ok (.putfield 32, 3) := by decide +kernel
theorem d_Task_init_47 : decode c_Task_init 47 = .ok (.return_, 1) := by decide +kernel
