/-! decode rows (by walk.py) -/
theorem d_Graph_init_0 : decode c_Graph_init 0 = .ok (.aload_n 0, 1) := by decide +kernel
theorem d_Graph_init_1 : decode c_Graph_init 1 = .ok (.invokespecial 3, 3) := by decide +kernel
theorem d_Graph_init_4 : decode c_Graph_init 4 = .ok (.aload_n 0, 1) := by decide +kernel
theorem d_Graph_init_5 : decode c_Graph_init 5 = .ok (.bipush 48, 2) := by decide +kernel
theorem d_Graph_init_7 : decode c_Graph_init 7 = .ok (.anewarray 9, 3) := by decide +kernel
theorem d_Graph_init_10 : decode c_Graph_init 10 = .ok (.putfield 11, 3) := by decide +kernel
theorem d_Graph_init_13 : decode c_Graph_init 13 = .ok (.aload_n 0, 1) := by decide +kernel
theorem d_Graph_init_14 : decode c_Graph_init 14 = .ok (.new 15, 3) := by decide +kernel
theorem d_Graph_init_17 : decode c_Graph_init 17 = .ok (.dup, 1) := by decide +kernel
theorem d_Graph_init_18 : decode c_Graph_init 18 = .ok (.invokespecial 17, 3) := by decide +kernel
theorem d_Graph_init_21 : decode c_Graph_init 21 = .ok (.putfield 18, 3) := by decide +kernel
theorem d_Graph_init_24 : decode c_Graph_init 24 = .ok (.aload_n 0, 1) := by decide +kernel
theorem d_Graph_init_25 : decode c_Graph_init 25 = .ok (.new 15, 3) := by decide +kernel
theorem d_Graph_init_28 : decode c_Graph_init 28 = .ok (.dup, 1) := by decide +kernel
theorem d_Graph_init_29 : decode c_Graph_init 29 = .ok (.invokespecial 17, 3) := by decide +kernel
theorem d_Graph_init_32 : decode c_Graph_init 32 = .ok (.putfield 22, 3) := by decide +kernel
theorem d_Graph_init_35 : decode c_Graph_init 35 = .ok (.return_, 1) := by decide +kernel
theorem d_Graph_settleIfPending_0 : decode c_Graph_settleIfPending 0 = .ok (.aload_n 0, 1) := by decide +kernel
theorem d_Graph_settleIfPending_1 : decode c_Graph_settleIfPending 1 = .ok (.iload_n 1, 1) := by decide +kernel
theorem d_Graph_settleIfPending_2 : decode c_Graph_settleIfPending 2 = .ok (.invokevirtual 67, 3) := by decide +kernel
theorem d_Graph_settleIfPending_5 : decode c_Graph_settleIfPending 5 = .ok (.astore 4, 2) := by decide +kernel
theorem d_Graph_settleIfPending_7 : decode c_Graph_settleIfPending 7 = .ok (.aload 4, 2) := by decide +kernel
theorem d_Graph_settleIfPending_9 : decode c_Graph_settleIfPending 9 = .ok (.ifnull 11, 3) := by decide +kernel
theorem d_Graph_settleIfPending_12 : decode c_Graph_settleIfPending 12 = .ok (.aload 4, 2) := by decide +kernel
theorem d_Graph_settleIfPending_14 : decode c_Graph_settleIfPending 14 = .ok (.getfield 71, 3) := by decide +kernel
theorem d_Graph_settleIfPending_17 : decode c_Graph_settleIfPending 17 = .ok (.ifCond .eq 5, 3) := by decide +kernel
theorem d_Graph_settleIfPending_20 : decode c_Graph_settleIfPending 20 = .ok (.iconst 0, 1) := by decide +kernel
theorem d_Graph_settleIfPending_21 : decode c_Graph_settleIfPending 21 = .ok (.ireturn, 1) := by decide +kernel
theorem d_Graph_settleIfPending_22 : decode c_Graph_settleIfPending 22 = .ok (.aload_n 0, 1) := by decide +kernel
theorem d_Graph_settleIfPending_23 : decode c_Graph_settleIfPending 23 = .ok (.aload 4, 2) := by decide +kernel
theorem d_Graph_settleIfPending_25 : decode c_Graph_settleIfPending 25 = .ok (.iload_n 2, 1) := by decide +kernel
theorem d_Graph_settleIfPending_26 : decode c_Graph_settleIfPending 26 = .ok (.iload_n 3, 1) := by decide +kernel
theorem d_Graph_settleIfPending_27 : decode c_Graph_settleIfPending 27 = .ok (.invokevirtual 74, 3) := by decide +kernel
theorem d_Graph_settleIfPending_30 : decode c_Graph_settleIfPending 30 = .ok (.iconst 1, 1) := by decide +kernel
theorem d_Graph_settleIfPending_31 : decode c_Graph_settleIfPending 31 = .ok (.ireturn, 1) := by decide +kernel
theorem d_Graph_find_0 : decode c_Graph_find 0 = .ok (.aload_n 0, 1) := by decide +kernel
theorem d_Graph_find_1 : decode c_Graph_find 1 = .ok (.iload_n 1, 1) := by decide +kernel
theorem d_Graph_find_2 : decode c_Graph_find 2 = .ok (.invokevirtual 29, 3) := by decide +kernel
theorem d_Graph_find_5 : decode c_Graph_find 5 = .ok (.ifCond .eq 12, 3) := by decide +kernel
theorem d_Graph_find_8 : decode c_Graph_find 8 = .ok (.aload_n 0, 1) := by decide +kernel
theorem d_Graph_find_9 : decode c_Graph_find 9 = .ok (.getfield 11, 3) := by decide +kernel
theorem d_Graph_find_12 : decode c_Graph_find 12 = .ok (.iload_n 1, 1) := by decide +kernel
theorem d_Graph_find_13 : decode c_Graph_find 13 = .ok (.aaload, 1) := by decide +kernel
theorem d_Graph_find_14 : decode c_Graph_find 14 = .ok (.goto 4, 3) := by decide +kernel
theorem d_Graph_find_17 : decode c_Graph_find 17 = .ok (.aconst_null, 1) := by decide +kernel
theorem d_Graph_find_18 : decode c_Graph_find 18 = .ok (.areturn, 1) := by decide +kernel
theorem d_Graph_has_0 : decode c_Graph_has 0 = .ok (.iload_n 1, 1) := by decide +kernel
theorem d_Graph_has_1 : decode c_Graph_has 1 = .ok (.ifCond .lt 15, 3) := by decide +kernel
theorem d_Graph_has_4 : decode c_Graph_has 4 = .ok (.iload_n 1, 1) := by decide +kernel
theorem d_Graph_has_5 : decode c_Graph_has 5 = .ok (.aload_n 0, 1) := by decide +kernel
theorem d_Graph_has_6 : decode c_Graph_has 6 = .ok (.getfield 25, 3) := by decide +kernel
theorem d_Graph_has_9 : decode c_Graph_has 9 = .ok (.if_icmp .ge 7, 3) := by decide +kernel
theorem d_Graph_has_12 : decode c_Graph_has 12 = .ok (.iconst 1, 1) := by decide +kernel
theorem d_Graph_has_13 : decode c_Graph_has 13 = .ok (.goto 4, 3) := by decide +kernel
theorem d_Graph_has_16 : decode c_Graph_has 16 = .ok (.iconst 0, 1) := by decide +kernel
theorem d_Graph_has_17 : decode c_Graph_has 17 = .ok (.ireturn, 1) := by decide +kernel
theorem d_Graph_settle_0 : decode c_Graph_settle 0 = .ok (.aload_n 1, 1) := by decide +kernel
theorem d_Graph_settle_1 : decode c_Graph_settle 1 = .ok (.iload_n 2, 1) := by decide +kernel
theorem d_Graph_settle_2 : decode c_Graph_settle 2 = .ok (.iload_n 3, 1) := by decide +kernel
theorem d_Graph_settle_3 : decode c_Graph_settle 3 = .ok (.invokevirtual 59, 3) := by decide +kernel
theorem d_Graph_settle_6 : decode c_Graph_settle 6 = .ok (.aload_n 0, 1) := by decide +kernel
theorem d_Graph_settle_7 : decode c_Graph_settle 7 = .ok (.aload_n 1, 1) := by decide +kernel
theorem d_Graph_settle_8 : decode c_Graph_settle 8 = .ok (.invokevirtual 63, 3) := by decide +kernel
theorem d_Graph_settle_11 : decode c_Graph_settle 11 = .ok (.aload_n 0, 1) := by decide +kernel
theorem d_Graph_settle_12 : decode c_Graph_settle 12 = .ok (.invokevirtual 56, 3) := by decide +kernel
theorem d_Graph_settle_15 : decode c_Graph_settle 15 = .ok (.return_, 1) := by decide +kernel
theorem d_Graph_noteTurn_0 : decode c_Graph_noteTurn 0 = .ok (.aload_n 1, 1) := by decide +kernel
theorem d_Graph_noteTurn_1 : decode c_Graph_noteTurn 1 = .ok (.aload_n 0, 1) := by decide +kernel
theorem d_Graph_noteTurn_2 : decode c_Graph_noteTurn 2 = .ok (.getfield 78, 3) := by decide +kernel
theorem d_Graph_noteTurn_5 : decode c_Graph_noteTurn 5 = .ok (.putfield 81, 3) := by decide +kernel
theorem d_Graph_noteTurn_8 : decode c_Graph_noteTurn 8 = .ok (.aload_n 0, 1) := by decide +kernel
theorem d_Graph_noteTurn_9 : decode c_Graph_noteTurn 9 = .ok (.dup, 1) := by decide +kernel
theorem d_Graph_noteTurn_10 : decode c_Graph_noteTurn 10 = .ok (.getfield 78, 3) := by decide +kernel
theorem d_Graph_noteTurn_13 : decode c_Graph_noteTurn 13 = .ok (.iconst 1, 1) := by decide +kernel
theorem d_Graph_noteTurn_14 : decode c_Graph_noteTurn 14 = .ok (.iadd, 1) := by decide +kernel
theorem d_Graph_noteTurn_15 : decode c_Graph_noteTurn 15 = .ok (.putfield 78, 3) := by decide +kernel
theorem d_Graph_noteTurn_18 : decode c_Graph_noteTurn 18 = .ok (.return_, 1) := by decide +kernel
theorem d_Graph_queueAllThatAreAble_0 : decode c_Graph_queueAllThatAreAble 0 = .ok (.iconst 0, 1) := by decide +kernel
theorem d_Graph_queueAllThatAreAble_1 : decode c_Graph_queueAllThatAreAble 1 = .ok (.istore_n 1, 1) := by decide +kernel
theorem d_Graph_queueAllThatAreAble_2 : decode c_Graph_queueAllThatAreAble 2 = .ok (.iload_n 1, 1) := by decide +kernel
theorem d_Graph_queueAllThatAreAble_3 : decode c_Graph_queueAllThatAreAble 3 = .ok (.aload_n 0, 1) := by decide +kernel
theorem d_Graph_queueAllThatAreAble_4 : decode c_Graph_queueAllThatAreAble 4 = .ok (.getfield 25, 3) := by decide +kernel
theorem d_Graph_queueAllThatAreAble_7 : decode c_Graph_queueAllThatAreAble 7 = .ok (.if_icmp .ge 61, 3) := by decide +kernel
theorem d_Graph_queueAllThatAreAble_10 : decode c_Graph_queueAllThatAreAble 10 = .ok (.aload_n 0, 1) := by decide +kernel
theorem d_Graph_queueAllThatAreAble_11 : decode c_Graph_queueAllThatAreAble 11 = .ok (.getfield 11, 3) := by decide +kernel
theorem d_Graph_queueAllThatAreAble_14 : decode c_Graph_queueAllThatAreAble 14 = .ok (.iload_n 1, 1) := by decide +kernel
theorem d_Graph_queueAllThatAreAble_15 : decode c_Graph_queueAllThatAreAble 15 = .ok (.aaload, 1) := by decide +kernel
theorem d_Graph_queueAllThatAreAble_16 : decode c_Graph_queueAllThatAreAble 16 = .ok (.astore_n 2, 1) := by decide +kernel
theorem d_Graph_queueAllThatAreAble_17 : decode c_Graph_queueAllThatAreAble 17 = .ok (.aload_n 2, 1) := by decide +kernel
theorem d_Graph_queueAllThatAreAble_18 : decode c_Graph_queueAllThatAreAble 18 = .ok (.getfield 91, 3) := by decide +kernel
theorem d_Graph_queueAllThatAreAble_21 : decode c_Graph_queueAllThatAreAble 21 = .ok (.ifCond .ne 41, 3) := by decide +kernel
theorem d_Graph_queueAllThatAreAble_24 : decode c_Graph_queueAllThatAreAble 24 = .ok (.aload_n 2, 1) := by decide +kernel
theorem d_Graph_queueAllThatAreAble_25 : decode c_Graph_queueAllThatAreAble 25 = .ok (.invokevirtual 98, 3) := by decide +kernel
theorem d_Graph_queueAllThatAreAble_28 : decode c_Graph_queueAllThatAreAble 28 = .ok (.ifCond .eq 34, 3) := by decide +kernel
theorem d_Graph_queueAllThatAreAble_31 : decode c_Graph_queueAllThatAreAble 31 = .ok (.aload_n 2, 1) := by decide +kernel
theorem d_Graph_queueAllThatAreAble_32 : decode c_Graph_queueAllThatAreAble 32 = .ok (.iconst 1, 1) := by decide +kernel
theorem d_Graph_queueAllThatAreAble_33 : decode c_Graph_queueAllThatAreAble 33 = .ok (.putfield 91, 3) := by decide +kernel
theorem d_Graph_queueAllThatAreAble_36 : decode c_Graph_queueAllThatAreAble 36 = .ok (.aload_n 2, 1) := by decide +kernel
theorem d_Graph_queueAllThatAreAble_37 : decode c_Graph_queueAllThatAreAble 37 = .ok (.invokevirtual 102, 3) := by decide +kernel
theorem d_Graph_queueAllThatAreAble_40 : decode c_Graph_queueAllThatAreAble 40 = .ok (.ifCond .eq 14, 3) := by decide +kernel
theorem d_Graph_queueAllThatAreAble_43 : decode c_Graph_queueAllThatAreAble 43 = .ok (.aload_n 0, 1) := by decide +kernel
theorem d_Graph_queueAllThatAreAble_44 : decode c_Graph_queueAllThatAreAble 44 = .ok (.getfield 22, 3) := by decide +kernel
theorem d_Graph_queueAllThatAreAble_47 : decode c_Graph_queueAllThatAreAble 47 = .ok (.aload_n 2, 1) := by decide +kernel
theorem d_Graph_queueAllThatAreAble_48 : decode c_Graph_queueAllThatAreAble 48 = .ok (.invokevirtual 105, 3) := by decide +kernel
theorem d_Graph_queueAllThatAreAble_51 : decode c_Graph_queueAllThatAreAble 51 = .ok (.goto 11, 3) := by decide +kernel
theorem d_Graph_queueAllThatAreAble_54 : decode c_Graph_queueAllThatAreAble 54 = .ok (.aload_n 0, 1) := by decide +kernel
theorem d_Graph_queueAllThatAreAble_55 : decode c_Graph_queueAllThatAreAble 55 = .ok (.getfield 18, 3) := by decide +kernel
theorem d_Graph_queueAllThatAreAble_58 : decode c_Graph_queueAllThatAreAble 58 = .ok (.aload_n 2, 1) := by decide +kernel
theorem d_Graph_queueAllThatAreAble_59 : decode c_Graph_queueAllThatAreAble 59 = .ok (.invokevirtual 105, 3) := by decide +kernel
theorem d_Graph_queueAllThatAreAble_62 : decode c_Graph_queueAllThatAreAble 62 = .ok (.iinc 1 1, 3) := by decide +kernel
theorem d_Graph_queueAllThatAreAble_65 : decode c_Graph_queueAllThatAreAble 65 = .ok (.goto (-63), 3) := by decide +kernel
theorem d_Graph_queueAllThatAreAble_68 : decode c_Graph_queueAllThatAreAble 68 = .ok (.return_, 1) := by decide +kernel
theorem d_Graph_workOffLine_0 : decode c_Graph_workOffLine 0 = .ok (.iconst 0, 1) := by decide +kernel
theorem d_Graph_workOffLine_1 : decode c_Graph_workOffLine 1 = .ok (.istore_n 1, 1) := by decide +kernel
theorem d_Graph_workOffLine_2 : decode c_Graph_workOffLine 2 = .ok (.iload_n 1, 1) := by decide +kernel
theorem d_Graph_workOffLine_3 : decode c_Graph_workOffLine 3 = .ok (.bipush 96, 2) := by decide +kernel
theorem d_Graph_workOffLine_5 : decode c_Graph_workOffLine 5 = .ok (.if_icmp .ge 27, 3) := by decide +kernel
theorem d_Graph_workOffLine_8 : decode c_Graph_workOffLine 8 = .ok (.aload_n 0, 1) := by decide +kernel
theorem d_Graph_workOffLine_9 : decode c_Graph_workOffLine 9 = .ok (.getfield 18, 3) := by decide +kernel
theorem d_Graph_workOffLine_12 : decode c_Graph_workOffLine 12 = .ok (.invokevirtual 84, 3) := by decide +kernel
theorem d_Graph_workOffLine_15 : decode c_Graph_workOffLine 15 = .ok (.astore_n 2, 1) := by decide +kernel
theorem d_Graph_workOffLine_16 : decode c_Graph_workOffLine 16 = .ok (.aload_n 2, 1) := by decide +kernel
theorem d_Graph_workOffLine_17 : decode c_Graph_workOffLine 17 = .ok (.ifnonnull 4, 3) := by decide +kernel
theorem d_Graph_workOffLine_20 : decode c_Graph_workOffLine 20 = .ok (.return_, 1) := by decide +kernel
theorem d_Graph_workOffLine_21 : decode c_Graph_workOffLine 21 = .ok (.aload_n 0, 1) := by decide +kernel
theorem d_Graph_workOffLine_22 : decode c_Graph_workOffLine 22 = .ok (.aload_n 2, 1) := by decide +kernel
theorem d_Graph_workOffLine_23 : decode c_Graph_workOffLine 23 = .ok (.invokevirtual 88, 3) := by decide +kernel
theorem d_Graph_workOffLine_26 : decode c_Graph_workOffLine 26 = .ok (.iinc 1 1, 3) := by decide +kernel
theorem d_Graph_workOffLine_29 : decode c_Graph_workOffLine 29 = .ok (.goto (-27), 3) := by decide +kernel
theorem d_Graph_workOffLine_32 : decode c_Graph_workOffLine 32 = .ok (.return_, 1) := by decide +kernel
theorem d_Graph_advance_0 : decode c_Graph_advance 0 = .ok (.aload_n 1, 1) := by decide +kernel
theorem d_Graph_advance_1 : decode c_Graph_advance 1 = .ok (.iconst 0, 1) := by decide +kernel
theorem d_Graph_advance_2 : decode c_Graph_advance 2 = .ok (.putfield 91, 3) := by decide +kernel
theorem d_Graph_advance_5 : decode c_Graph_advance 5 = .ok (.aload_n 1, 1) := by decide +kernel
theorem d_Graph_advance_6 : decode c_Graph_advance 6 = .ok (.getfield 71, 3) := by decide +kernel
theorem d_Graph_advance_9 : decode c_Graph_advance 9 = .ok (.ifCond .eq 4, 3) := by decide +kernel
theorem d_Graph_advance_12 : decode c_Graph_advance 12 = .ok (.return_, 1) := by decide +kernel
theorem d_Graph_advance_13 : decode c_Graph_advance 13 = .ok (.aload_n 0, 1) := by decide +kernel
theorem d_Graph_advance_14 : decode c_Graph_advance 14 = .ok (.aload_n 1, 1) := by decide +kernel
theorem d_Graph_advance_15 : decode c_Graph_advance 15 = .ok (.invokevirtual 95, 3) := by decide +kernel
theorem d_Graph_advance_18 : decode c_Graph_advance 18 = .ok (.aload_n 1, 1) := by decide +kernel
theorem d_Graph_advance_19 : decode c_Graph_advance 19 = .ok (.getfield 71, 3) := by decide +kernel
theorem d_Graph_advance_22 : decode c_Graph_advance 22 = .ok (.ifCond .eq 8, 3) := by decide +kernel
theorem d_Graph_advance_25 : decode c_Graph_advance 25 = .ok (.aload_n 0, 1) := by decide +kernel
theorem d_Graph_advance_26 : decode c_Graph_advance 26 = .ok (.aload_n 1, 1) := by decide +kernel
theorem d_Graph_advance_27 : decode c_Graph_advance 27 = .ok (.invokevirtual 63, 3) := by decide +kernel
theorem d_Graph_advance_30 : decode c_Graph_advance 30 = .ok (.aload_n 0, 1) := by decide +kernel
theorem d_Graph_advance_31 : decode c_Graph_advance 31 = .ok (.invokevirtual 56, 3) := by decide +kernel
theorem d_Graph_advance_34 : decode c_Graph_advance 34 = .ok (.return_, 1) := by decide +kernel
theorem d_Graph_decide_0 : decode c_Graph_decide 0 = .ok (.aload_n 1, 1) := by decide +kernel
theorem d_Graph_decide_1 : decode c_Graph_decide 1 = .ok (.getfield 108, 3) := by decide +kernel
theorem d_Graph_decide_4 : decode c_Graph_decide 4 = .ok (.iconst 0, 1) := by decide +kernel
theorem d_Graph_decide_5 : decode c_Graph_decide 5 = .ok (.aaload, 1) := by decide +kernel
theorem d_Graph_decide_6 : decode c_Graph_decide 6 = .ok (.astore_n 2, 1) := by decide +kernel
theorem d_Graph_decide_7 : decode c_Graph_decide 7 = .ok (.aload_n 1, 1) := by decide +kernel
theorem d_Graph_decide_8 : decode c_Graph_decide 8 = .ok (.getfield 111, 3) := by decide +kernel
theorem d_Graph_decide_11 : decode c_Graph_decide 11 = .ok (.tableswitch 118 0 7 #[45, 53, 61, 69, 77, 86, 100, 111], 45) := by decide +kernel
theorem d_Graph_decide_56 : decode c_Graph_decide 56 = .ok (.aload_n 1, 1) := by decide +kernel
theorem d_Graph_decide_57 : decode c_Graph_decide 57 = .ok (.aload_n 2, 1) := by decide +kernel
theorem d_Graph_decide_58 : decode c_Graph_decide 58 = .ok (.invokevirtual 114, 3) := by decide +kernel
theorem d_Graph_decide_61 : decode c_Graph_decide 61 = .ok (.goto 76, 3) := by decide +kernel
theorem d_Graph_decide_64 : decode c_Graph_decide 64 = .ok (.aload_n 1, 1) := by decide +kernel
theorem d_Graph_decide_65 : decode c_Graph_decide 65 = .ok (.aload_n 2, 1) := by decide +kernel
theorem d_Graph_decide_66 : decode c_Graph_decide 66 = .ok (.invokevirtual 117, 3) := by decide +kernel
theorem d_Graph_decide_69 : decode c_Graph_decide 69 = .ok (.goto 68, 3) := by decide +kernel
theorem d_Graph_decide_72 : decode c_Graph_decide 72 = .ok (.aload_n 1, 1) := by decide +kernel
theorem d_Graph_decide_73 : decode c_Graph_decide 73 = .ok (.aload_n 2, 1) := by decide +kernel
theorem d_Graph_decide_74 : decode c_Graph_decide 74 = .ok (.invokevirtual 120, 3) := by decide +kernel
theorem d_Graph_decide_77 : decode c_Graph_decide 77 = .ok (.goto 60, 3) := by decide +kernel
theorem d_Graph_decide_80 : decode c_Graph_decide 80 = .ok (.aload_n 1, 1) := by decide +kernel
theorem d_Graph_decide_81 : decode c_Graph_decide 81 = .ok (.aload_n 2, 1) := by decide +kernel
theorem d_Graph_decide_82 : decode c_Graph_decide 82 = .ok (.invokevirtual 123, 3) := by decide +kernel
theorem d_Graph_decide_85 : decode c_Graph_decide 85 = .ok (.goto 52, 3) := by decide +kernel
theorem d_Graph_decide_88 : decode c_Graph_decide 88 = .ok (.aload_n 0, 1) := by decide +kernel
theorem d_Graph_decide_89 : decode c_Graph_decide 89 = .ok (.aload_n 1, 1) := by decide +kernel
theorem d_Graph_decide_90 : decode c_Graph_decide 90 = .ok (.aload_n 2, 1) := by decide +kernel
theorem d_Graph_decide_91 : decode c_Graph_decide 91 = .ok (.invokevirtual 126, 3) := by decide +kernel
theorem d_Graph_decide_94 : decode c_Graph_decide 94 = .ok (.goto 43, 3) := by decide +kernel
theorem d_Graph_decide_97 : decode c_Graph_decide 97 = .ok (.aload_n 1, 1) := by decide +kernel
theorem d_Graph_decide_98 : decode c_Graph_decide 98 = .ok (.aload_n 2, 1) := by decide +kernel
theorem d_Graph_decide_99 : decode c_Graph_decide 99 = .ok (.aload_n 1, 1) := by decide +kernel
theorem d_Graph_decide_100 : decode c_Graph_decide 100 = .ok (.getfield 108, 3) := by decide +kernel
theorem d_Graph_decide_103 : decode c_Graph_decide 103 = .ok (.iconst 1, 1) := by decide +kernel
theorem d_Graph_decide_104 : decode c_Graph_decide 104 = .ok (.aaload, 1) := by decide +kernel
theorem d_Graph_decide_105 : decode c_Graph_decide 105 = .ok (.invokevirtual 130, 3) := by decide +kernel
theorem d_Graph_decide_108 : decode c_Graph_decide 108 = .ok (.goto 29, 3) := by decide +kernel
theorem d_Graph_decide_111 : decode c_Graph_decide 111 = .ok (.aload_n 1, 1) := by decide +kernel
theorem d_Graph_decide_112 : decode c_Graph_decide 112 = .ok (.aload_n 1, 1) := by decide +kernel
theorem d_Graph_decide_113 : decode c_Graph_decide 113 = .ok (.invokevirtual 133, 3) := by decide +kernel
theorem d_Graph_decide_116 : decode c_Graph_decide 116 = .ok (.invokevirtual 114, 3) := by decide +kernel
theorem d_Graph_decide_119 : decode c_Graph_decide 119 = .ok (.goto 18, 3) := by decide +kernel
theorem d_Graph_decide_122 : decode c_Graph_decide 122 = .ok (.aload_n 1, 1) := by decide +kernel
theorem d_Graph_decide_123 : decode c_Graph_decide 123 = .ok (.invokevirtual 136, 3) := by decide +kernel
theorem d_Graph_decide_126 : decode c_Graph_decide 126 = .ok (.goto 11, 3) := by decide +kernel
theorem d_Graph_decide_129 : decode c_Graph_decide 129 = .ok (.aload_n 1, 1) := by decide +kernel
theorem d_Graph_decide_130 : decode c_Graph_decide 130 = .ok (.aload_n 1, 1) := by decide +kernel
theorem d_Graph_decide_131 : decode c_Graph_decide 131 = .ok (.invokevirtual 133, 3) := by decide +kernel
theorem d_Graph_decide_134 : decode c_Graph_decide 134 = .ok (.invokevirtual 139, 3) := by decide +kernel
theorem d_Graph_decide_137 : decode c_Graph_decide 137 = .ok (.return_, 1) := by decide +kernel
theorem d_Graph_compose_0 : decode c_Graph_compose 0 = .ok (.aload_n 1, 1) := by decide +kernel
theorem d_Graph_compose_1 : decode c_Graph_compose 1 = .ok (.getfield 142, 3) := by decide +kernel
theorem d_Graph_compose_4 : decode c_Graph_compose 4 = .ok (.ifnull 12, 3) := by decide +kernel
theorem d_Graph_compose_7 : decode c_Graph_compose 7 = .ok (.aload_n 1, 1) := by decide +kernel
theorem d_Graph_compose_8 : decode c_Graph_compose 8 = .ok (.aload_n 1, 1) := by decide +kernel
theorem d_Graph_compose_9 : decode c_Graph_compose 9 = .ok (.getfield 142, 3) := by decide +kernel
theorem d_Graph_compose_12 : decode c_Graph_compose 12 = .ok (.invokevirtual 139, 3) := by decide +kernel
theorem d_Graph_compose_15 : decode c_Graph_compose 15 = .ok (.return_, 1) := by decide +kernel
theorem d_Graph_compose_16 : decode c_Graph_compose 16 = .ok (.aload_n 2, 1) := by decide +kernel
theorem d_Graph_compose_17 : decode c_Graph_compose 17 = .ok (.getfield 71, 3) := by decide +kernel
theorem d_Graph_compose_20 : decode c_Graph_compose 20 = .ok (.iconst 1, 1) := by decide +kernel
theorem d_Graph_compose_21 : decode c_Graph_compose 21 = .ok (.if_icmp .eq 9, 3) := by decide +kernel
theorem d_Graph_compose_24 : decode c_Graph_compose 24 = .ok (.aload_n 1, 1) := by decide +kernel
theorem d_Graph_compose_25 : decode c_Graph_compose 25 = .ok (.aload_n 2, 1) := by decide +kernel
theorem d_Graph_compose_26 : decode c_Graph_compose 26 = .ok (.invokevirtual 139, 3) := by decide +kernel
theorem d_Graph_compose_29 : decode c_Graph_compose 29 = .ok (.return_, 1) := by decide +kernel
theorem d_Graph_compose_30 : decode c_Graph_compose 30 = .ok (.aload_n 1, 1) := by decide +kernel
theorem d_Graph_compose_31 : decode c_Graph_compose 31 = .ok (.getfield 146, 3) := by decide +kernel
theorem d_Graph_compose_34 : decode c_Graph_compose 34 = .ok (.aload_n 1, 1) := by decide +kernel
theorem d_Graph_compose_35 : decode c_Graph_compose 35 = .ok (.getfield 149, 3) := by decide +kernel
theorem d_Graph_compose_38 : decode c_Graph_compose 38 = .ok (.aload_n 2, 1) := by decide +kernel
theorem d_Graph_compose_39 : decode c_Graph_compose 39 = .ok (.getfield 152, 3) := by decide +kernel
theorem d_Graph_compose_42 : decode c_Graph_compose 42 = .ok (.invokestatic 155, 3) := by decide +kernel
theorem d_Graph_compose_45 : decode c_Graph_compose 45 = .ok (.istore_n 3, 1) := by decide +kernel
theorem d_Graph_compose_46 : decode c_Graph_compose 46 = .ok (.iload_n 3, 1) := by decide +kernel
theorem d_Graph_compose_47 : decode c_Graph_compose 47 = .ok (.ifCond .eq 10, 3) := by decide +kernel
theorem d_Graph_compose_50 : decode c_Graph_compose 50 = .ok (.aload_n 1, 1) := by decide +kernel
theorem d_Graph_compose_51 : decode c_Graph_compose 51 = .ok (.iconst 3, 1) := by decide +kernel
theorem d_Graph_compose_52 : decode c_Graph_compose 52 = .ok (.iload_n 3, 1) := by decide +kernel
theorem d_Graph_compose_53 : decode c_Graph_compose 53 = .ok (.invokevirtual 59, 3) := by decide +kernel
theorem d_Graph_compose_56 : decode c_Graph_compose 56 = .ok (.return_, 1) := by decide +kernel
theorem d_Graph_compose_57 : decode c_Graph_compose 57 = .ok (.aload_n 1, 1) := by decide +kernel
theorem d_Graph_compose_58 : decode c_Graph_compose 58 = .ok (.aload_n 0, 1) := by decide +kernel
theorem d_Graph_compose_59 : decode c_Graph_compose 59 = .ok (.aload_n 1, 1) := by decide +kernel
theorem d_Graph_compose_60 : decode c_Graph_compose 60 = .ok (.getfield 146, 3) := by decide +kernel
theorem d_Graph_compose_63 : decode c_Graph_compose 63 = .ok (.aload_n 1, 1) := by decide +kernel
theorem d_Graph_compose_64 : decode c_Graph_compose 64 = .ok (.getfield 149, 3) := by decide +kernel
theorem d_Graph_compose_67 : decode c_Graph_compose 67 = .ok (.aload_n 2, 1) := by decide +kernel
theorem d_Graph_compose_68 : decode c_Graph_compose 68 = .ok (.getfield 152, 3) := by decide +kernel
theorem d_Graph_compose_71 : decode c_Graph_compose 71 = .ok (.invokestatic 159, 3) := by decide +kernel
theorem d_Graph_compose_74 : decode c_Graph_compose 74 = .ok (.invokevirtual 67, 3) := by decide +kernel
theorem d_Graph_compose_77 : decode c_Graph_compose 77 = .ok (.putfield 142, 3) := by decide +kernel
theorem d_Graph_compose_80 : decode c_Graph_compose 80 = .ok (.aload_n 1, 1) := by decide +kernel
theorem d_Graph_compose_81 : decode c_Graph_compose 81 = .ok (.getfield 142, 3) := by decide +kernel
theorem d_Graph_compose_84 : decode c_Graph_compose 84 = .ok (.ifnonnull 10, 3) := by decide +kernel
theorem d_Graph_compose_87 : decode c_Graph_compose 87 = .ok (.aload_n 1, 1) := by decide +kernel
theorem d_Graph_compose_88 : decode c_Graph_compose 88 = .ok (.iconst 3, 1) := by decide +kernel
theorem d_Graph_compose_89 : decode c_Graph_compose 89 = .ok (.bipush 8, 2) := by decide +kernel
theorem d_Graph_compose_91 : decode c_Graph_compose 91 = .ok (.invokevirtual 59, 3) := by decide +kernel
theorem d_Graph_compose_94 : decode c_Graph_compose 94 = .ok (.return_, 1) := by decide +kernel
theorem d_Graph_advancePool_0 : decode c_Graph_advancePool 0 = .ok (.aload_n 0, 1) := by decide +kernel
theorem d_Graph_advancePool_1 : decode c_Graph_advancePool 1 = .ok (.getfield 22, 3) := by decide +kernel
theorem d_Graph_advancePool_4 : decode c_Graph_advancePool 4 = .ok (.invokevirtual 84, 3) := by decide +kernel
theorem d_Graph_advancePool_7 : decode c_Graph_advancePool 7 = .ok (.astore_n 1, 1) := by decide +kernel
theorem d_Graph_advancePool_8 : decode c_Graph_advancePool 8 = .ok (.aload_n 1, 1) := by decide +kernel
theorem d_Graph_advancePool_9 : decode c_Graph_advancePool 9 = .ok (.ifnonnull 5, 3) := by decide +kernel
theorem d_Graph_advancePool_12 : decode c_Graph_advancePool 12 = .ok (.iconst 0, 1) := by decide +kernel
theorem d_Graph_advancePool_13 : decode c_Graph_advancePool 13 = .ok (.ireturn, 1) := by decide +kernel
theorem d_Graph_advancePool_14 : decode c_Graph_advancePool 14 = .ok (.aload_n 0, 1) := by decide +kernel
theorem d_Graph_advancePool_15 : decode c_Graph_advancePool 15 = .ok (.aload_n 1, 1) := by decide +kernel
theorem d_Graph_advancePool_16 : decode c_Graph_advancePool 16 = .ok (.invokevirtual 88, 3) := by decide +kernel
theorem d_Graph_advancePool_19 : decode c_Graph_advancePool 19 = .ok (.iconst 1, 1) := by decide +kernel
theorem d_Graph_advancePool_20 : decode c_Graph_advancePool 20 = .ok (.ireturn, 1) := by decide +kernel
theorem d_Graph_placeInPool_0 : decode c_Graph_placeInPool 0 = .ok (.aload_n 0, 1) := by decide +kernel
theorem d_Graph_placeInPool_1 : decode c_Graph_placeInPool 1 = .ok (.getfield 22, 3) := by decide +kernel
theorem d_Graph_placeInPool_4 : decode c_Graph_placeInPool 4 = .ok (.aload_n 1, 1) := by decide +kernel
theorem d_Graph_placeInPool_5 : decode c_Graph_placeInPool 5 = .ok (.invokevirtual 37, 3) := by decide +kernel
theorem d_Graph_placeInPool_8 : decode c_Graph_placeInPool 8 = .ok (.ireturn, 1) := by decide +kernel
theorem d_Graph_poolSize_0 : decode c_Graph_poolSize 0 = .ok (.aload_n 0, 1) := by decide +kernel
theorem d_Graph_poolSize_1 : decode c_Graph_poolSize 1 = .ok (.getfield 22, 3) := by decide +kernel
theorem d_Graph_poolSize_4 : decode c_Graph_poolSize 4 = .ok (.invokevirtual 33, 3) := by decide +kernel
theorem d_Graph_poolSize_7 : decode c_Graph_poolSize 7 = .ok (.ireturn, 1) := by decide +kernel
theorem d_Graph_isFull_0 : decode c_Graph_isFull 0 = .ok (.aload_n 0, 1) := by decide +kernel
theorem d_Graph_isFull_1 : decode c_Graph_isFull 1 = .ok (.getfield 25, 3) := by decide +kernel
theorem d_Graph_isFull_4 : decode c_Graph_isFull 4 = .ok (.bipush 48, 2) := by decide +kernel
theorem d_Graph_isFull_6 : decode c_Graph_isFull 6 = .ok (.if_icmp .lt 7, 3) := by decide +kernel
theorem d_Graph_isFull_9 : decode c_Graph_isFull 9 = .ok (.iconst 1, 1) := by decide +kernel
theorem d_Graph_isFull_10 : decode c_Graph_isFull 10 = .ok (.goto 4, 3) := by decide +kernel
theorem d_Graph_isFull_13 : decode c_Graph_isFull 13 = .ok (.iconst 0, 1) := by decide +kernel
theorem d_Graph_isFull_14 : decode c_Graph_isFull 14 = .ok (.ireturn, 1) := by decide +kernel
theorem d_Graph_addSource_0 : decode c_Graph_addSource 0 = .ok (.aload_n 0, 1) := by decide +kernel
theorem d_Graph_addSource_1 : decode c_Graph_addSource 1 = .ok (.iconst 0, 1) := by decide +kernel
theorem d_Graph_addSource_2 : decode c_Graph_addSource 2 = .ok (.anewarray 9, 3) := by decide +kernel
theorem d_Graph_addSource_5 : decode c_Graph_addSource 5 = .ok (.bipush 9, 2) := by decide +kernel
theorem d_Graph_addSource_7 : decode c_Graph_addSource 7 = .ok (.iconst (-1), 1) := by decide +kernel
theorem d_Graph_addSource_8 : decode c_Graph_addSource 8 = .ok (.iconst 0, 1) := by decide +kernel
theorem d_Graph_addSource_9 : decode c_Graph_addSource 9 = .ok (.iconst 0, 1) := by decide +kernel
theorem d_Graph_addSource_10 : decode c_Graph_addSource 10 = .ok (.invokevirtual 49, 3) := by decide +kernel
theorem d_Graph_addSource_13 : decode c_Graph_addSource 13 = .ok (.areturn, 1) := by decide +kernel
theorem d_Graph_addStage_0 : decode c_Graph_addStage 0 = .ok (.new 9, 3) := by decide +kernel
theorem d_Graph_addStage_3 : decode c_Graph_addStage 3 = .ok (.dup, 1) := by decide +kernel
theorem d_Graph_addStage_4 : decode c_Graph_addStage 4 = .ok (.aload_n 0, 1) := by decide +kernel
theorem d_Graph_addStage_5 : decode c_Graph_addStage 5 = .ok (.getfield 25, 3) := by decide +kernel
theorem d_Graph_addStage_8 : decode c_Graph_addStage 8 = .ok (.iload_n 2, 1) := by decide +kernel
theorem d_Graph_addStage_9 : decode c_Graph_addStage 9 = .ok (.iload_n 3, 1) := by decide +kernel
theorem d_Graph_addStage_10 : decode c_Graph_addStage 10 = .ok (.iload 4, 2) := by decide +kernel
theorem d_Graph_addStage_12 : decode c_Graph_addStage 12 = .ok (.iload 5, 2) := by decide +kernel
theorem d_Graph_addStage_14 : decode c_Graph_addStage 14 = .ok (.aload_n 1, 1) := by decide +kernel
theorem d_Graph_addStage_15 : decode c_Graph_addStage 15 = .ok (.invokespecial 53, 3) := by decide +kernel
theorem d_Graph_addStage_18 : decode c_Graph_addStage 18 = .ok (.astore 6, 2) := by decide +kernel
theorem d_Graph_addStage_20 : decode c_Graph_addStage 20 = .ok (.aload_n 0, 1) := by decide +kernel
theorem d_Graph_addStage_21 : decode c_Graph_addStage 21 = .ok (.getfield 11, 3) := by decide +kernel
theorem d_Graph_addStage_24 : decode c_Graph_addStage 24 = .ok (.aload_n 0, 1) := by decide +kernel
theorem d_Graph_addStage_25 : decode c_Graph_addStage 25 = .ok (.getfield 25, 3) := by decide +kernel
theorem d_Graph_addStage_28 : decode c_Graph_addStage 28 = .ok (.aload 6, 2) := by decide +kernel
theorem d_Graph_addStage_30 : decode c_Graph_addStage 30 = .ok (.aastore, 1) := by decide +kernel
theorem d_Graph_addStage_31 : decode c_Graph_addStage 31 = .ok (.aload_n 0, 1) := by decide +kernel
theorem d_Graph_addStage_32 : decode c_Graph_addStage 32 = .ok (.dup, 1) := by decide +kernel
theorem d_Graph_addStage_33 : decode c_Graph_addStage 33 = .ok (.getfield 25, 3) := by decide +kernel
theorem d_Graph_addStage_36 : decode c_Graph_addStage 36 = .ok (.iconst 1, 1) := by decide +kernel
theorem d_Graph_addStage_37 : decode c_Graph_addStage 37 = .ok (.iadd, 1) := by decide +kernel
theorem d_Graph_addStage_38 : decode c_Graph_addStage 38 = .ok (.putfield 25, 3) := by decide +kernel
theorem d_Graph_addStage_41 : decode c_Graph_addStage 41 = .ok (.aload_n 0, 1) := by decide +kernel
theorem d_Graph_addStage_42 : decode c_Graph_addStage 42 = .ok (.invokevirtual 56, 3) := by decide +kernel
theorem d_Graph_addStage_45 : decode c_Graph_addStage 45 = .ok (.aload 6, 2) := by decide +kernel
theorem d_Graph_addStage_47 : decode c_Graph_addStage 47 = .ok (.areturn, 1) := by decide +kernel
theorem d_Graph_inputsOf_0 : decode c_Graph_inputsOf 0 = .ok (.iconst 1, 1) := by decide +kernel
theorem d_Graph_inputsOf_1 : decode c_Graph_inputsOf 1 = .ok (.anewarray 9, 3) := by decide +kernel
theorem d_Graph_inputsOf_4 : decode c_Graph_inputsOf 4 = .ok (.astore_n 2, 1) := by decide +kernel
theorem d_Graph_inputsOf_5 : decode c_Graph_inputsOf 5 = .ok (.aload_n 2, 1) := by decide +kernel
theorem d_Graph_inputsOf_6 : decode c_Graph_inputsOf 6 = .ok (.iconst 0, 1) := by decide +kernel
theorem d_Graph_inputsOf_7 : decode c_Graph_inputsOf 7 = .ok (.aload_n 0, 1) := by decide +kernel
theorem d_Graph_inputsOf_8 : decode c_Graph_inputsOf 8 = .ok (.getfield 11, 3) := by decide +kernel
theorem d_Graph_inputsOf_11 : decode c_Graph_inputsOf 11 = .ok (.iload_n 1, 1) := by decide +kernel
theorem d_Graph_inputsOf_12 : decode c_Graph_inputsOf 12 = .ok (.aaload, 1) := by decide +kernel
theorem d_Graph_inputsOf_13 : decode c_Graph_inputsOf 13 = .ok (.aastore, 1) := by decide +kernel
theorem d_Graph_inputsOf_14 : decode c_Graph_inputsOf 14 = .ok (.aload_n 2, 1) := by decide +kernel
theorem d_Graph_inputsOf_15 : decode c_Graph_inputsOf 15 = .ok (.areturn, 1) := by decide +kernel
theorem d_Graph_inputsOf2_0 : decode c_Graph_inputsOf2 0 = .ok (.iconst 2, 1) := by decide +kernel
theorem d_Graph_inputsOf2_1 : decode c_Graph_inputsOf2 1 = .ok (.anewarray 9, 3) := by decide +kernel
theorem d_Graph_inputsOf2_4 : decode c_Graph_inputsOf2 4 = .ok (.astore_n 3, 1) := by decide +kernel
theorem d_Graph_inputsOf2_5 : decode c_Graph_inputsOf2 5 = .ok (.aload_n 3, 1) := by decide +kernel
theorem d_Graph_inputsOf2_6 : decode c_Graph_inputsOf2 6 = .ok (.iconst 0, 1) := by decide +kernel
theorem d_Graph_inputsOf2_7 : decode c_Graph_inputsOf2 7 = .ok (.aload_n 0, 1) := by decide +kernel
theorem d_Graph_inputsOf2_8 : decode c_Graph_inputsOf2 8 = .ok (.getfield 11, 3) := by decide +kernel
theorem d_Graph_inputsOf2_11 : decode c_Graph_inputsOf2 11 = .ok (.iload_n 1, 1) := by decide +kernel
theorem d_Graph_inputsOf2_12 : decode c_Graph_inputsOf2 12 = .ok (.aaload, 1) := by decide +kernel
theorem d_Graph_inputsOf2_13 : decode c_Graph_inputsOf2 13 = .ok (.aastore, 1) := by decide +kernel
theorem d_Graph_inputsOf2_14 : decode c_Graph_inputsOf2 14 = .ok (.aload_n 3, 1) := by decide +kernel
theorem d_Graph_inputsOf2_15 : decode c_Graph_inputsOf2 15 = .ok (.iconst 1, 1) := by decide +kernel
theorem d_Graph_inputsOf2_16 : decode c_Graph_inputsOf2 16 = .ok (.aload_n 0, 1) := by decide +kernel
theorem d_Graph_inputsOf2_17 : decode c_Graph_inputsOf2 17 = .ok (.getfield 11, 3) := by decide +kernel
theorem d_Graph_inputsOf2_20 : decode c_Graph_inputsOf2 20 = .ok (.iload_n 2, 1) := by decide +kernel
theorem d_Graph_inputsOf2_21 : decode c_Graph_inputsOf2 21 = .ok (.aaload, 1) := by decide +kernel
theorem d_Graph_inputsOf2_22 : decode c_Graph_inputsOf2 22 = .ok (.aastore, 1) := by decide +kernel
theorem d_Graph_inputsOf2_23 : decode c_Graph_inputsOf2 23 = .ok (.aload_n 3, 1) := by decide +kernel
theorem d_Graph_inputsOf2_24 : decode c_Graph_inputsOf2 24 = .ok (.areturn, 1) := by decide +kernel
theorem d_Graph_hasAll_0 : decode c_Graph_hasAll 0 = .ok (.lload_n 1, 1) := by decide +kernel
theorem d_Graph_hasAll_1 : decode c_Graph_hasAll 1 = .ok (.lconst 0, 1) := by decide +kernel
theorem d_Graph_hasAll_2 : decode c_Graph_hasAll 2 = .ok (.lcmp, 1) := by decide +kernel
theorem d_Graph_hasAll_3 : decode c_Graph_hasAll 3 = .ok (.ifCond .eq 18, 3) := by decide +kernel
theorem d_Graph_hasAll_6 : decode c_Graph_hasAll 6 = .ok (.lload_n 1, 1) := by decide +kernel
theorem d_Graph_hasAll_7 : decode c_Graph_hasAll 7 = .ok (.aload_n 0, 1) := by decide +kernel
theorem d_Graph_hasAll_8 : decode c_Graph_hasAll 8 = .ok (.getfield 25, 3) := by decide +kernel
theorem d_Graph_hasAll_11 : decode c_Graph_hasAll 11 = .ok (.lushr, 1) := by decide +kernel
theorem d_Graph_hasAll_12 : decode c_Graph_hasAll 12 = .ok (.lconst 0, 1) := by decide +kernel
theorem d_Graph_hasAll_13 : decode c_Graph_hasAll 13 = .ok (.lcmp, 1) := by decide +kernel
theorem d_Graph_hasAll_14 : decode c_Graph_hasAll 14 = .ok (.ifCond .ne 7, 3) := by decide +kernel
theorem d_Graph_hasAll_17 : decode c_Graph_hasAll 17 = .ok (.iconst 1, 1) := by decide +kernel
theorem d_Graph_hasAll_18 : decode c_Graph_hasAll 18 = .ok (.goto 4, 3) := by decide +kernel
theorem d_Graph_hasAll_21 : decode c_Graph_hasAll 21 = .ok (.iconst 0, 1) := by decide +kernel
theorem d_Graph_hasAll_22 : decode c_Graph_hasAll 22 = .ok (.ireturn, 1) := by decide +kernel
theorem d_Graph_inputsOfSet_0 : decode c_Graph_inputsOfSet 0 = .ok (.lload_n 1, 1) := by decide +kernel
theorem d_Graph_inputsOfSet_1 : decode c_Graph_inputsOfSet 1 = .ok (.invokestatic 41, 3) := by decide +kernel
theorem d_Graph_inputsOfSet_4 : decode c_Graph_inputsOfSet 4 = .ok (.anewarray 9, 3) := by decide +kernel
theorem d_Graph_inputsOfSet_7 : decode c_Graph_inputsOfSet 7 = .ok (.astore_n 3, 1) := by decide +kernel
theorem d_Graph_inputsOfSet_8 : decode c_Graph_inputsOfSet 8 = .ok (.iconst 0, 1) := by decide +kernel
theorem d_Graph_inputsOfSet_9 : decode c_Graph_inputsOfSet 9 = .ok (.istore 4, 2) := by decide +kernel
theorem d_Graph_inputsOfSet_11 : decode c_Graph_inputsOfSet 11 = .ok (.iconst 0, 1) := by decide +kernel
theorem d_Graph_inputsOfSet_12 : decode c_Graph_inputsOfSet 12 = .ok (.istore 5, 2) := by decide +kernel
theorem d_Graph_inputsOfSet_14 : decode c_Graph_inputsOfSet 14 = .ok (.iload 5, 2) := by decide +kernel
theorem d_Graph_inputsOfSet_16 : decode c_Graph_inputsOfSet 16 = .ok (.aload_n 0, 1) := by decide +kernel
theorem d_Graph_inputsOfSet_17 : decode c_Graph_inputsOfSet 17 = .ok (.getfield 25, 3) := by decide +kernel
theorem d_Graph_inputsOfSet_20 : decode c_Graph_inputsOfSet 20 = .ok (.if_icmp .ge 34, 3) := by decide +kernel
theorem d_Graph_inputsOfSet_23 : decode c_Graph_inputsOfSet 23 = .ok (.lload_n 1, 1) := by decide +kernel
theorem d_Graph_inputsOfSet_24 : decode c_Graph_inputsOfSet 24 = .ok (.iload 5, 2) := by decide +kernel
theorem d_Graph_inputsOfSet_26 : decode c_Graph_inputsOfSet 26 = .ok (.lushr, 1) := by decide +kernel
theorem d_Graph_inputsOfSet_27 : decode c_Graph_inputsOfSet 27 = .ok (.lconst 1, 1) := by decide +kernel
theorem d_Graph_inputsOfSet_28 : decode c_Graph_inputsOfSet 28 = .ok (.land, 1) := by decide +kernel
theorem d_Graph_inputsOfSet_29 : decode c_Graph_inputsOfSet 29 = .ok (.lconst 0, 1) := by decide +kernel
theorem d_Graph_inputsOfSet_30 : decode c_Graph_inputsOfSet 30 = .ok (.lcmp, 1) := by decide +kernel
theorem d_Graph_inputsOfSet_31 : decode c_Graph_inputsOfSet 31 = .ok (.ifCond .eq 17, 3) := by decide +kernel
theorem d_Graph_inputsOfSet_34 : decode c_Graph_inputsOfSet 34 = .ok (.aload_n 3, 1) := by decide +kernel
theorem d_Graph_inputsOfSet_35 : decode c_Graph_inputsOfSet 35 = .ok (.iload 4, 2) := by decide +kernel
theorem d_Graph_inputsOfSet_37 : decode c_Graph_inputsOfSet 37 = .ok (.aload_n 0, 1) := by decide +kernel
theorem d_Graph_inputsOfSet_38 : decode c_Graph_inputsOfSet 38 = .ok (.getfield 11, 3) := by decide +kernel
theorem d_Graph_inputsOfSet_41 : decode c_Graph_inputsOfSet 41 = .ok (.iload 5, 2) := by decide +kernel
theorem d_Graph_inputsOfSet_43 : decode c_Graph_inputsOfSet 43 = .ok (.aaload, 1) := by decide +kernel
theorem d_Graph_inputsOfSet_44 : decode c_Graph_inputsOfSet 44 = .ok (.aastore, 1) := by decide +kernel
theorem d_Graph_inputsOfSet_45 : decode c_Graph_inputsOfSet 45 = .ok (.iinc 4 1, 3) := by decide +kernel
theorem d_Graph_inputsOfSet_48 : decode c_Graph_inputsOfSet 48 = .ok (.iinc 5 1, 3) := by decide +kernel
theorem d_Graph_inputsOfSet_51 : decode c_Graph_inputsOfSet 51 = .ok (.goto (-37), 3) := by decide +kernel
theorem d_Graph_inputsOfSet_54 : decode c_Graph_inputsOfSet 54 = .ok (.aload_n 3, 1) := by decide +kernel
theorem d_Graph_inputsOfSet_55 : decode c_Graph_inputsOfSet 55 = .ok (.areturn, 1) := by decide +kernel
