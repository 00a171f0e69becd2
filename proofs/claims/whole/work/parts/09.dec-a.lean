/-! decode rows (by walk.py) -/
theorem d_Queue_init_0 : decode c_Queue_init 0 = .ok (.aload_n 0, 1) := by decide +kernel
theorem d_Queue_init_1 : decode c_Queue_init 1 = .ok (.invokespecial 5, 3) := by decide +kernel
theorem d_Queue_init_4 : decode c_Queue_init 4 = .ok (.aload_n 0, 1) := by decide +kernel
theorem d_Queue_init_5 : decode c_Queue_init 5 = .ok (.bipush 48, 2) := by decide +kernel
theorem d_Queue_init_7 : decode c_Queue_init 7 = .ok (.anewarray 13, 3) := by decide +kernel
theorem d_Queue_init_10 : decode c_Queue_init 10 = .ok (.putfield 15, 3) := by decide +kernel
theorem d_Queue_init_13 : decode c_Queue_init 13 = .ok (.return_, 1) := by decide +kernel
theorem d_Stage_become_0 : decode c_Stage_become 0 = .ok (.aload_n 0, 1) := by decide +kernel
theorem d_Stage_become_1 : decode c_Stage_become 1 = .ok (.iload_n 1, 1) := by decide +kernel
theorem d_Stage_become_2 : decode c_Stage_become 2 = .ok (.putfield 30, 3) := by decide +kernel
theorem d_Stage_become_5 : decode c_Stage_become 5 = .ok (.aload_n 0, 1) := by decide +kernel
theorem d_Stage_become_6 : decode c_Stage_become 6 = .ok (.iload_n 2, 1) := by decide +kernel
theorem d_Stage_become_7 : decode c_Stage_become 7 = .ok (.putfield 41, 3) := by decide +kernel
theorem d_Stage_become_10 : decode c_Stage_become 10 = .ok (.return_, 1) := by decide +kernel
theorem d_Stage_isAble_0 : decode c_Stage_isAble 0 = .ok (.aload_n 0, 1) := by decide +kernel
theorem d_Stage_isAble_1 : decode c_Stage_isAble 1 = .ok (.getfield 30, 3) := by decide +kernel
theorem d_Stage_isAble_4 : decode c_Stage_isAble 4 = .ok (.ifCond .ne 12, 3) := by decide +kernel
theorem d_Stage_isAble_7 : decode c_Stage_isAble 7 = .ok (.aload_n 0, 1) := by decide +kernel
theorem d_Stage_isAble_8 : decode c_Stage_isAble 8 = .ok (.getfield 13, 3) := by decide +kernel
theorem d_Stage_isAble_11 : decode c_Stage_isAble 11 = .ok (.bipush 9, 2) := by decide +kernel
theorem d_Stage_isAble_13 : decode c_Stage_isAble 13 = .ok (.if_icmp .ne 5, 3) := by decide +kernel
theorem d_Stage_isAble_16 : decode c_Stage_isAble 16 = .ok (.iconst 0, 1) := by decide +kernel
theorem d_Stage_isAble_17 : decode c_Stage_isAble 17 = .ok (.ireturn, 1) := by decide +kernel
theorem d_Stage_isAble_18 : decode c_Stage_isAble 18 = .ok (.aload_n 0, 1) := by decide +kernel
theorem d_Stage_isAble_19 : decode c_Stage_isAble 19 = .ok (.getfield 37, 3) := by decide +kernel
theorem d_Stage_isAble_22 : decode c_Stage_isAble 22 = .ok (.ifnull 19, 3) := by decide +kernel
theorem d_Stage_isAble_25 : decode c_Stage_isAble 25 = .ok (.aload_n 0, 1) := by decide +kernel
theorem d_Stage_isAble_26 : decode c_Stage_isAble 26 = .ok (.getfield 37, 3) := by decide +kernel
theorem d_Stage_isAble_29 : decode c_Stage_isAble 29 = .ok (.getfield 30, 3) := by decide +kernel
theorem d_Stage_isAble_32 : decode c_Stage_isAble 32 = .ok (.ifCond .eq 7, 3) := by decide +kernel
theorem d_Stage_isAble_35 : decode c_Stage_isAble 35 = .ok (.iconst 1, 1) := by decide +kernel
theorem d_Stage_isAble_36 : decode c_Stage_isAble 36 = .ok (.goto 4, 3) := by decide +kernel
theorem d_Stage_isAble_39 : decode c_Stage_isAble 39 = .ok (.iconst 0, 1) := by decide +kernel
theorem d_Stage_isAble_40 : decode c_Stage_isAble 40 = .ok (.ireturn, 1) := by decide +kernel
theorem d_Stage_isAble_41 : decode c_Stage_isAble 41 = .ok (.iconst 0, 1) := by decide +kernel
theorem d_Stage_isAble_42 : decode c_Stage_isAble 42 = .ok (.istore_n 1, 1) := by decide +kernel
theorem d_Stage_isAble_43 : decode c_Stage_isAble 43 = .ok (.iconst 0, 1) := by decide +kernel
theorem d_Stage_isAble_44 : decode c_Stage_isAble 44 = .ok (.istore_n 2, 1) := by decide +kernel
theorem d_Stage_isAble_45 : decode c_Stage_isAble 45 = .ok (.iload_n 2, 1) := by decide +kernel
theorem d_Stage_isAble_46 : decode c_Stage_isAble 46 = .ok (.aload_n 0, 1) := by decide +kernel
theorem d_Stage_isAble_47 : decode c_Stage_isAble 47 = .ok (.getfield 26, 3) := by decide +kernel
theorem d_Stage_isAble_50 : decode c_Stage_isAble 50 = .ok (.arraylength, 1) := by decide +kernel
theorem d_Stage_isAble_51 : decode c_Stage_isAble 51 = .ok (.if_icmp .ge 24, 3) := by decide +kernel
theorem d_Stage_isAble_54 : decode c_Stage_isAble 54 = .ok (.aload_n 0, 1) := by decide +kernel
theorem d_Stage_isAble_55 : decode c_Stage_isAble 55 = .ok (.getfield 26, 3) := by decide +kernel
theorem d_Stage_isAble_58 : decode c_Stage_isAble 58 = .ok (.iload_n 2, 1) := by decide +kernel
theorem d_Stage_isAble_59 : decode c_Stage_isAble 59 = .ok (.aaload, 1) := by decide +kernel
theorem d_Stage_isAble_60 : decode c_Stage_isAble 60 = .ok (.getfield 30, 3) := by decide +kernel
theorem d_Stage_isAble_63 : decode c_Stage_isAble 63 = .ok (.ifCond .eq 6, 3) := by decide +kernel
theorem d_Stage_isAble_66 : decode c_Stage_isAble 66 = .ok (.iinc 1 1, 3) := by decide +kernel
theorem d_Stage_isAble_69 : decode c_Stage_isAble 69 = .ok (.iinc 2 1, 3) := by decide +kernel
theorem d_Stage_isAble_72 : decode c_Stage_isAble 72 = .ok (.goto (-27), 3) := by decide +kernel
theorem d_Stage_isAble_75 : decode c_Stage_isAble 75 = .ok (.aload_n 0, 1) := by decide +kernel
theorem d_Stage_isAble_76 : decode c_Stage_isAble 76 = .ok (.getfield 13, 3) := by decide +kernel
theorem d_Stage_isAble_79 : decode c_Stage_isAble 79 = .ok (.bipush 6, 2) := by decide +kernel
theorem d_Stage_isAble_81 : decode c_Stage_isAble 81 = .ok (.if_icmp .eq 12, 3) := by decide +kernel
theorem d_Stage_isAble_84 : decode c_Stage_isAble 84 = .ok (.aload_n 0, 1) := by decide +kernel
theorem d_Stage_isAble_85 : decode c_Stage_isAble 85 = .ok (.getfield 13, 3) := by decide +kernel
theorem d_Stage_isAble_88 : decode c_Stage_isAble 88 = .ok (.bipush 8, 2) := by decide +kernel
theorem d_Stage_isAble_90 : decode c_Stage_isAble 90 = .ok (.if_icmp .ne 15, 3) := by decide +kernel
theorem d_Stage_isAble_93 : decode c_Stage_isAble 93 = .ok (.iload_n 1, 1) := by decide +kernel
theorem d_Stage_isAble_94 : decode c_Stage_isAble 94 = .ok (.ifCond .le 7, 3) := by decide +kernel
theorem d_Stage_isAble_97 : decode c_Stage_isAble 97 = .ok (.iconst 1, 1) := by decide +kernel
theorem d_Stage_isAble_98 : decode c_Stage_isAble 98 = .ok (.goto 21, 3) := by decide +kernel
theorem d_Stage_isAble_101 : decode c_Stage_isAble 101 = .ok (.iconst 0, 1) := by decide +kernel
theorem d_Stage_isAble_102 : decode c_Stage_isAble 102 = .ok (.goto 17, 3) := by decide +kernel
theorem d_Stage_isAble_105 : decode c_Stage_isAble 105 = .ok (.iload_n 1, 1) := by decide +kernel
theorem d_Stage_isAble_106 : decode c_Stage_isAble 106 = .ok (.aload_n 0, 1) := by decide +kernel
theorem d_Stage_isAble_107 : decode c_Stage_isAble 107 = .ok (.getfield 26, 3) := by decide +kernel
theorem d_Stage_isAble_110 : decode c_Stage_isAble 110 = .ok (.arraylength, 1) := by decide +kernel
theorem d_Stage_isAble_111 : decode c_Stage_isAble 111 = .ok (.if_icmp .ne 7, 3) := by decide +kernel
theorem d_Stage_isAble_114 : decode c_Stage_isAble 114 = .ok (.iconst 1, 1) := by decide +kernel
theorem d_Stage_isAble_115 : decode c_Stage_isAble 115 = .ok (.goto 4, 3) := by decide +kernel
theorem d_Stage_isAble_118 : decode c_Stage_isAble 118 = .ok (.iconst 0, 1) := by decide +kernel
theorem d_Stage_isAble_119 : decode c_Stage_isAble 119 = .ok (.ireturn, 1) := by decide +kernel
theorem d_Stage_goesToPool_0 : decode c_Stage_goesToPool 0 = .ok (.aload_n 0, 1) := by decide +kernel
theorem d_Stage_goesToPool_1 : decode c_Stage_goesToPool 1 = .ok (.getfield 22, 3) := by decide +kernel
theorem d_Stage_goesToPool_4 : decode c_Stage_goesToPool 4 = .ok (.ifCond .eq 14, 3) := by decide +kernel
theorem d_Stage_goesToPool_7 : decode c_Stage_goesToPool 7 = .ok (.aload_n 0, 1) := by decide +kernel
theorem d_Stage_goesToPool_8 : decode c_Stage_goesToPool 8 = .ok (.getfield 37, 3) := by decide +kernel
theorem d_Stage_goesToPool_11 : decode c_Stage_goesToPool 11 = .ok (.ifnonnull 7, 3) := by decide +kernel
theorem d_Stage_goesToPool_14 : decode c_Stage_goesToPool 14 = .ok (.iconst 1, 1) := by decide +kernel
theorem d_Stage_goesToPool_15 : decode c_Stage_goesToPool 15 = .ok (.goto 4, 3) := by decide +kernel
theorem d_Stage_goesToPool_18 : decode c_Stage_goesToPool 18 = .ok (.iconst 0, 1) := by decide +kernel
theorem d_Stage_goesToPool_19 : decode c_Stage_goesToPool 19 = .ok (.ireturn, 1) := by decide +kernel
theorem d_Queue_append_0 : decode c_Queue_append 0 = .ok (.aload_n 0, 1) := by decide +kernel
theorem d_Queue_append_1 : decode c_Queue_append 1 = .ok (.getfield 19, 3) := by decide +kernel
theorem d_Queue_append_4 : decode c_Queue_append 4 = .ok (.bipush 48, 2) := by decide +kernel
theorem d_Queue_append_6 : decode c_Queue_append 6 = .ok (.if_icmp .ge 31, 3) := by decide +kernel
theorem d_Queue_append_9 : decode c_Queue_append 9 = .ok (.aload_n 0, 1) := by decide +kernel
theorem d_Queue_append_10 : decode c_Queue_append 10 = .ok (.getfield 15, 3) := by decide +kernel
theorem d_Queue_append_13 : decode c_Queue_append 13 = .ok (.aload_n 0, 1) := by decide +kernel
theorem d_Queue_append_14 : decode c_Queue_append 14 = .ok (.getfield 23, 3) := by decide +kernel
theorem d_Queue_append_17 : decode c_Queue_append 17 = .ok (.aload_n 0, 1) := by decide +kernel
theorem d_Queue_append_18 : decode c_Queue_append 18 = .ok (.getfield 19, 3) := by decide +kernel
theorem d_Queue_append_21 : decode c_Queue_append 21 = .ok (.iadd, 1) := by decide +kernel
theorem d_Queue_append_22 : decode c_Queue_append 22 = .ok (.bipush 48, 2) := by decide +kernel
theorem d_Queue_append_24 : decode c_Queue_append 24 = .ok (.irem, 1) := by decide +kernel
theorem d_Queue_append_25 : decode c_Queue_append 25 = .ok (.aload_n 1, 1) := by decide +kernel
theorem d_Queue_append_26 : decode c_Queue_append 26 = .ok (.aastore, 1) := by decide +kernel
theorem d_Queue_append_27 : decode c_Queue_append 27 = .ok (.aload_n 0, 1) := by decide +kernel
theorem d_Queue_append_28 : decode c_Queue_append 28 = .ok (.dup, 1) := by decide +kernel
theorem d_Queue_append_29 : decode c_Queue_append 29 = .ok (.getfield 19, 3) := by decide +kernel
theorem d_Queue_append_32 : decode c_Queue_append 32 = .ok (.iconst 1, 1) := by decide +kernel
theorem d_Queue_append_33 : decode c_Queue_append 33 = .ok (.iadd, 1) := by decide +kernel
theorem d_Queue_append_34 : decode c_Queue_append 34 = .ok (.putfield 19, 3) := by decide +kernel
theorem d_Queue_append_37 : decode c_Queue_append 37 = .ok (.return_, 1) := by decide +kernel
theorem d_Queue_takeFront_0 : decode c_Queue_takeFront 0 = .ok (.aload_n 0, 1) := by decide +kernel
theorem d_Queue_takeFront_1 : decode c_Queue_takeFront 1 = .ok (.getfield 19, 3) := by decide +kernel
theorem d_Queue_takeFront_4 : decode c_Queue_takeFront 4 = .ok (.ifCond .ne 5, 3) := by decide +kernel
theorem d_Queue_takeFront_7 : decode c_Queue_takeFront 7 = .ok (.aconst_null, 1) := by decide +kernel
theorem d_Queue_takeFront_8 : decode c_Queue_takeFront 8 = .ok (.areturn, 1) := by decide +kernel
theorem d_Queue_takeFront_9 : decode c_Queue_takeFront 9 = .ok (.aload_n 0, 1) := by decide +kernel
theorem d_Queue_takeFront_10 : decode c_Queue_takeFront 10 = .ok (.getfield 15, 3) := by decide +kernel
theorem d_Queue_takeFront_13 : decode c_Queue_takeFront 13 = .ok (.aload_n 0, 1) := by decide +kernel
theorem d_Queue_takeFront_14 : decode c_Queue_takeFront 14 = .ok (.getfield 23, 3) := by decide +kernel
theorem d_Queue_takeFront_17 : decode c_Queue_takeFront 17 = .ok (.aaload, 1) := by decide +kernel
theorem d_Queue_takeFront_18 : decode c_Queue_takeFront 18 = .ok (.astore_n 1, 1) := by decide +kernel
theorem d_Queue_takeFront_19 : decode c_Queue_takeFront 19 = .ok (.aload_n 0, 1) := by decide +kernel
theorem d_Queue_takeFront_20 : decode c_Queue_takeFront 20 = .ok (.aload_n 0, 1) := by decide +kernel
theorem d_Queue_takeFront_21 : decode c_Queue_takeFront 21 = .ok (.getfield 23, 3) := by decide +kernel
theorem d_Queue_takeFront_24 : decode c_Queue_takeFront 24 = .ok (.iconst 1, 1) := by decide +kernel
theorem d_Queue_takeFront_25 : decode c_Queue_takeFront 25 = .ok (.iadd, 1) := by decide +kernel
theorem d_Queue_takeFront_26 : decode c_Queue_takeFront 26 = .ok (.bipush 48, 2) := by decide +kernel
theorem d_Queue_takeFront_28 : decode c_Queue_takeFront 28 = .ok (.irem, 1) := by decide +kernel
theorem d_Queue_takeFront_29 : decode c_Queue_takeFront 29 = .ok (.putfield 23, 3) := by decide +kernel
theorem d_Queue_takeFront_32 : decode c_Queue_takeFront 32 = .ok (.aload_n 0, 1) := by decide +kernel
theorem d_Queue_takeFront_33 : decode c_Queue_takeFront 33 = .ok (.dup, 1) := by decide +kernel
theorem d_Queue_takeFront_34 : decode c_Queue_takeFront 34 = .ok (.getfield 19, 3) := by decide +kernel
theorem d_Queue_takeFront_37 : decode c_Queue_takeFront 37 = .ok (.iconst 1, 1) := by decide +kernel
theorem d_Queue_takeFront_38 : decode c_Queue_takeFront 38 = .ok (.isub, 1) := by decide +kernel
theorem d_Queue_takeFront_39 : decode c_Queue_takeFront 39 = .ok (.putfield 19, 3) := by decide +kernel
theorem d_Queue_takeFront_42 : decode c_Queue_takeFront 42 = .ok (.aload_n 1, 1) := by decide +kernel
theorem d_Queue_takeFront_43 : decode c_Queue_takeFront 43 = .ok (.areturn, 1) := by decide +kernel
theorem d_Stage_applyTo_0 : decode c_Stage_applyTo 0 = .ok (.aload_n 1, 1) := by decide +kernel
theorem d_Stage_applyTo_1 : decode c_Stage_applyTo 1 = .ok (.getfield 30, 3) := by decide +kernel
theorem d_Stage_applyTo_4 : decode c_Stage_applyTo 4 = .ok (.iconst 1, 1) := by decide +kernel
theorem d_Stage_applyTo_5 : decode c_Stage_applyTo 5 = .ok (.if_icmp .ne 14, 3) := by decide +kernel
theorem d_Stage_applyTo_8 : decode c_Stage_applyTo 8 = .ok (.aload_n 0, 1) := by decide +kernel
theorem d_Stage_applyTo_9 : decode c_Stage_applyTo 9 = .ok (.aload_n 1, 1) := by decide +kernel
theorem d_Stage_applyTo_10 : decode c_Stage_applyTo 10 = .ok (.getfield 41, 3) := by decide +kernel
theorem d_Stage_applyTo_13 : decode c_Stage_applyTo 13 = .ok (.invokevirtual 57, 3) := by decide +kernel
theorem d_Stage_applyTo_16 : decode c_Stage_applyTo 16 = .ok (.goto 8, 3) := by decide +kernel
theorem d_Stage_applyTo_19 : decode c_Stage_applyTo 19 = .ok (.aload_n 0, 1) := by decide +kernel
theorem d_Stage_applyTo_20 : decode c_Stage_applyTo 20 = .ok (.aload_n 1, 1) := by decide +kernel
theorem d_Stage_applyTo_21 : decode c_Stage_applyTo 21 = .ok (.invokevirtual 61, 3) := by decide +kernel
theorem d_Stage_applyTo_24 : decode c_Stage_applyTo 24 = .ok (.return_, 1) := by decide +kernel
theorem d_Stage_useFunction_0 : decode c_Stage_useFunction 0 = .ok (.aload_n 0, 1) := by decide +kernel
theorem d_Stage_useFunction_1 : decode c_Stage_useFunction 1 = .ok (.getfield 16, 3) := by decide +kernel
theorem d_Stage_useFunction_4 : decode c_Stage_useFunction 4 = .ok (.aload_n 0, 1) := by decide +kernel
theorem d_Stage_useFunction_5 : decode c_Stage_useFunction 5 = .ok (.getfield 19, 3) := by decide +kernel
theorem d_Stage_useFunction_8 : decode c_Stage_useFunction 8 = .ok (.iload_n 1, 1) := by decide +kernel
theorem d_Stage_useFunction_9 : decode c_Stage_useFunction 9 = .ok (.invokestatic 48, 3) := by decide +kernel
theorem d_Stage_useFunction_12 : decode c_Stage_useFunction 12 = .ok (.istore_n 2, 1) := by decide +kernel
theorem d_Stage_useFunction_13 : decode c_Stage_useFunction 13 = .ok (.iload_n 2, 1) := by decide +kernel
theorem d_Stage_useFunction_14 : decode c_Stage_useFunction 14 = .ok (.ifCond .eq 12, 3) := by decide +kernel
theorem d_Stage_useFunction_17 : decode c_Stage_useFunction 17 = .ok (.aload_n 0, 1) := by decide +kernel
theorem d_Stage_useFunction_18 : decode c_Stage_useFunction 18 = .ok (.iconst 3, 1) := by decide +kernel
theorem d_Stage_useFunction_19 : decode c_Stage_useFunction 19 = .ok (.iload_n 2, 1) := by decide +kernel
theorem d_Stage_useFunction_20 : decode c_Stage_useFunction 20 = .ok (.invokevirtual 44, 3) := by decide +kernel
theorem d_Stage_useFunction_23 : decode c_Stage_useFunction 23 = .ok (.goto 20, 3) := by decide +kernel
theorem d_Stage_useFunction_26 : decode c_Stage_useFunction 26 = .ok (.aload_n 0, 1) := by decide +kernel
theorem d_Stage_useFunction_27 : decode c_Stage_useFunction 27 = .ok (.iconst 1, 1) := by decide +kernel
theorem d_Stage_useFunction_28 : decode c_Stage_useFunction 28 = .ok (.aload_n 0, 1) := by decide +kernel
theorem d_Stage_useFunction_29 : decode c_Stage_useFunction 29 = .ok (.getfield 16, 3) := by decide +kernel
theorem d_Stage_useFunction_32 : decode c_Stage_useFunction 32 = .ok (.aload_n 0, 1) := by decide +kernel
theorem d_Stage_useFunction_33 : decode c_Stage_useFunction 33 = .ok (.getfield 19, 3) := by decide +kernel
theorem d_Stage_useFunction_36 : decode c_Stage_useFunction 36 = .ok (.iload_n 1, 1) := by decide +kernel
theorem d_Stage_useFunction_37 : decode c_Stage_useFunction 37 = .ok (.invokestatic 54, 3) := by decide +kernel
theorem d_Stage_useFunction_40 : decode c_Stage_useFunction 40 = .ok (.invokevirtual 44, 3) := by decide +kernel
theorem d_Stage_useFunction_43 : decode c_Stage_useFunction 43 = .ok (.return_, 1) := by decide +kernel
theorem d_Fn_thrownFor_0 : decode c_Fn_thrownFor 0 = .ok (.iload_n 0, 1) := by decide +kernel
theorem d_Fn_thrownFor_1 : decode c_Fn_thrownFor 1 = .ok (.tableswitch 65 2 5 #[31, 47, 65, 54], 31) := by decide +kernel
theorem d_Fn_thrownFor_32 : decode c_Fn_thrownFor 32 = .ok (.iload_n 2, 1) := by decide +kernel
theorem d_Fn_thrownFor_33 : decode c_Fn_thrownFor 33 = .ok (.iload_n 1, 1) := by decide +kernel
theorem d_Fn_thrownFor_34 : decode c_Fn_thrownFor 34 = .ok (.if_icmp .ne 12, 3) := by decide +kernel
theorem d_Fn_thrownFor_37 : decode c_Fn_thrownFor 37 = .ok (.iconst 1, 1) := by decide +kernel
theorem d_Fn_thrownFor_38 : decode c_Fn_thrownFor 38 = .ok (.iload_n 1, 1) := by decide +kernel
theorem d_Fn_thrownFor_39 : decode c_Fn_thrownFor 39 = .ok (.bipush 7, 2) := by decide +kernel
theorem d_Fn_thrownFor_41 : decode c_Fn_thrownFor 41 = .ok (.iand, 1) := by decide +kernel
theorem d_Fn_thrownFor_42 : decode c_Fn_thrownFor 42 = .ok (.iadd, 1) := by decide +kernel
theorem d_Fn_thrownFor_43 : decode c_Fn_thrownFor 43 = .ok (.goto 4, 3) := by decide +kernel
theorem d_Fn_thrownFor_46 : decode c_Fn_thrownFor 46 = .ok (.iconst 0, 1) := by decide +kernel
theorem d_Fn_thrownFor_47 : decode c_Fn_thrownFor 47 = .ok (.ireturn, 1) := by decide +kernel
theorem d_Fn_thrownFor_48 : decode c_Fn_thrownFor 48 = .ok (.iconst 1, 1) := by decide +kernel
theorem d_Fn_thrownFor_49 : decode c_Fn_thrownFor 49 = .ok (.iload_n 1, 1) := by decide +kernel
theorem d_Fn_thrownFor_50 : decode c_Fn_thrownFor 50 = .ok (.bipush 7, 2) := by decide +kernel
theorem d_Fn_thrownFor_52 : decode c_Fn_thrownFor 52 = .ok (.iand, 1) := by decide +kernel
theorem d_Fn_thrownFor_53 : decode c_Fn_thrownFor 53 = .ok (.iadd, 1) := by decide +kernel
theorem d_Fn_thrownFor_54 : decode c_Fn_thrownFor 54 = .ok (.ireturn, 1) := by decide +kernel
theorem d_Fn_thrownFor_55 : decode c_Fn_thrownFor 55 = .ok (.iload_n 1, 1) := by decide +kernel
theorem d_Fn_thrownFor_56 : decode c_Fn_thrownFor 56 = .ok (.ifCond .ne 8, 3) := by decide +kernel
theorem d_Fn_thrownFor_59 : decode c_Fn_thrownFor 59 = .ok (.bipush 9, 2) := by decide +kernel
theorem d_Fn_thrownFor_61 : decode c_Fn_thrownFor 61 = .ok (.goto 4, 3) := by decide +kernel
theorem d_Fn_thrownFor_64 : decode c_Fn_thrownFor 64 = .ok (.iconst 0, 1) := by decide +kernel
theorem d_Fn_thrownFor_65 : decode c_Fn_thrownFor 65 = .ok (.ireturn, 1) := by decide +kernel
theorem d_Fn_thrownFor_66 : decode c_Fn_thrownFor 66 = .ok (.iconst 0, 1) := by decide +kernel
theorem d_Fn_thrownFor_67 : decode c_Fn_thrownFor 67 = .ok (.ireturn, 1) := by decide +kernel
theorem d_Fn_madeOf_0 : decode c_Fn_madeOf 0 = .ok (.iload_n 0, 1) := by decide +kernel
theorem d_Fn_madeOf_1 : decode c_Fn_madeOf 1 = .ok (.tableswitch 61 0 5 #[39, 43, 61, 61, 47, 49], 39) := by decide +kernel
theorem d_Fn_madeOf_40 : decode c_Fn_madeOf 40 = .ok (.iload_n 2, 1) := by decide +kernel
theorem d_Fn_madeOf_41 : decode c_Fn_madeOf 41 = .ok (.iload_n 1, 1) := by decide +kernel
theorem d_Fn_madeOf_42 : decode c_Fn_madeOf 42 = .ok (.iadd, 1) := by decide +kernel
theorem d_Fn_madeOf_43 : decode c_Fn_madeOf 43 = .ok (.ireturn, 1) := by decide +kernel
theorem d_Fn_madeOf_44 : decode c_Fn_madeOf 44 = .ok (.iload_n 2, 1) := by decide +kernel
theorem d_Fn_madeOf_45 : decode c_Fn_madeOf 45 = .ok (.iload_n 1, 1) := by decide +kernel
theorem d_Fn_madeOf_46 : decode c_Fn_madeOf 46 = .ok (.imul, 1) := by decide +kernel
theorem d_Fn_madeOf_47 : decode c_Fn_madeOf 47 = .ok (.ireturn, 1) := by decide +kernel
theorem d_Fn_madeOf_48 : decode c_Fn_madeOf 48 = .ok (.iload_n 1, 1) := by decide +kernel
theorem d_Fn_madeOf_49 : decode c_Fn_madeOf 49 = .ok (.ireturn, 1) := by decide +kernel
theorem d_Fn_madeOf_50 : decode c_Fn_madeOf 50 = .ok (.iload_n 1, 1) := by decide +kernel
theorem d_Fn_madeOf_51 : decode c_Fn_madeOf 51 = .ok (.ifCond .ne 7, 3) := by decide +kernel
theorem d_Fn_madeOf_54 : decode c_Fn_madeOf 54 = .ok (.iconst 0, 1) := by decide +kernel
theorem d_Fn_madeOf_55 : decode c_Fn_madeOf 55 = .ok (.goto 6, 3) := by decide +kernel
theorem d_Fn_madeOf_58 : decode c_Fn_madeOf 58 = .ok (.iload_n 2, 1) := by decide +kernel
theorem d_Fn_madeOf_59 : decode c_Fn_madeOf 59 = .ok (.iload_n 1, 1) := by decide +kernel
theorem d_Fn_madeOf_60 : decode c_Fn_madeOf 60 = .ok (.idiv, 1) := by decide +kernel
theorem d_Fn_madeOf_61 : decode c_Fn_madeOf 61 = .ok (.ireturn, 1) := by decide +kernel
theorem d_Fn_madeOf_62 : decode c_Fn_madeOf 62 = .ok (.iload_n 2, 1) := by decide +kernel
theorem d_Fn_madeOf_63 : decode c_Fn_madeOf 63 = .ok (.ireturn, 1) := by decide +kernel
theorem d_Stage_follow_0 : decode c_Stage_follow 0 = .ok (.aload_n 0, 1) := by decide +kernel
theorem d_Stage_follow_1 : decode c_Stage_follow 1 = .ok (.aload_n 1, 1) := by decide +kernel
theorem d_Stage_follow_2 : decode c_Stage_follow 2 = .ok (.getfield 30, 3) := by decide +kernel
theorem d_Stage_follow_5 : decode c_Stage_follow 5 = .ok (.iconst 1, 1) := by decide +kernel
theorem d_Stage_follow_6 : decode c_Stage_follow 6 = .ok (.if_icmp .ne 7, 3) := by decide +kernel
theorem d_Stage_follow_9 : decode c_Stage_follow 9 = .ok (.iconst 1, 1) := by decide +kernel
theorem d_Stage_follow_10 : decode c_Stage_follow 10 = .ok (.goto 4, 3) := by decide +kernel
theorem d_Stage_follow_13 : decode c_Stage_follow 13 = .ok (.iconst 3, 1) := by decide +kernel
theorem d_Stage_follow_14 : decode c_Stage_follow 14 = .ok (.aload_n 1, 1) := by decide +kernel
theorem d_Stage_follow_15 : decode c_Stage_follow 15 = .ok (.getfield 41, 3) := by decide +kernel
theorem d_Stage_follow_18 : decode c_Stage_follow 18 = .ok (.invokevirtual 44, 3) := by decide +kernel
theorem d_Stage_follow_21 : decode c_Stage_follow 21 = .ok (.return_, 1) := by decide +kernel
theorem d_Stage_recoverFrom_0 : decode c_Stage_recoverFrom 0 = .ok (.aload_n 1, 1) := by decide +kernel
theorem d_Stage_recoverFrom_1 : decode c_Stage_recoverFrom 1 = .ok (.getfield 30, 3) := by decide +kernel
theorem d_Stage_recoverFrom_4 : decode c_Stage_recoverFrom 4 = .ok (.iconst 1, 1) := by decide +kernel
theorem d_Stage_recoverFrom_5 : decode c_Stage_recoverFrom 5 = .ok (.if_icmp .ne 11, 3) := by decide +kernel
theorem d_Stage_recoverFrom_8 : decode c_Stage_recoverFrom 8 = .ok (.aload_n 0, 1) := by decide +kernel
theorem d_Stage_recoverFrom_9 : decode c_Stage_recoverFrom 9 = .ok (.aload_n 1, 1) := by decide +kernel
theorem d_Stage_recoverFrom_10 : decode c_Stage_recoverFrom 10 = .ok (.invokevirtual 61, 3) := by decide +kernel
theorem d_Stage_recoverFrom_13 : decode c_Stage_recoverFrom 13 = .ok (.goto 11, 3) := by decide +kernel
theorem d_Stage_recoverFrom_16 : decode c_Stage_recoverFrom 16 = .ok (.aload_n 0, 1) := by decide +kernel
theorem d_Stage_recoverFrom_17 : decode c_Stage_recoverFrom 17 = .ok (.aload_n 1, 1) := by decide +kernel
theorem d_Stage_recoverFrom_18 : decode c_Stage_recoverFrom 18 = .ok (.getfield 41, 3) := by decide +kernel
theorem d_Stage_recoverFrom_21 : decode c_Stage_recoverFrom 21 = .ok (.invokevirtual 57, 3) := by decide +kernel
theorem d_Stage_recoverFrom_24 : decode c_Stage_recoverFrom 24 = .ok (.return_, 1) := by decide +kernel
theorem d_Stage_handle_0 : decode c_Stage_handle 0 = .ok (.aload_n 0, 1) := by decide +kernel
theorem d_Stage_handle_1 : decode c_Stage_handle 1 = .ok (.aload_n 1, 1) := by decide +kernel
theorem d_Stage_handle_2 : decode c_Stage_handle 2 = .ok (.getfield 30, 3) := by decide +kernel
theorem d_Stage_handle_5 : decode c_Stage_handle 5 = .ok (.iconst 1, 1) := by decide +kernel
theorem d_Stage_handle_6 : decode c_Stage_handle 6 = .ok (.if_icmp .ne 10, 3) := by decide +kernel
theorem d_Stage_handle_9 : decode c_Stage_handle 9 = .ok (.aload_n 1, 1) := by decide +kernel
theorem d_Stage_handle_10 : decode c_Stage_handle 10 = .ok (.getfield 41, 3) := by decide +kernel
theorem d_Stage_handle_13 : decode c_Stage_handle 13 = .ok (.goto 9, 3) := by decide +kernel
theorem d_Stage_handle_16 : decode c_Stage_handle 16 = .ok (.iconst (-1), 1) := by decide +kernel
theorem d_Stage_handle_17 : decode c_Stage_handle 17 = .ok (.aload_n 1, 1) := by decide +kernel
theorem d_Stage_handle_18 : decode c_Stage_handle 18 = .ok (.getfield 41, 3) := by decide +kernel
theorem d_Stage_handle_21 : decode c_Stage_handle 21 = .ok (.isub, 1) := by decide +kernel
theorem d_Stage_handle_22 : decode c_Stage_handle 22 = .ok (.invokevirtual 57, 3) := by decide +kernel
theorem d_Stage_handle_25 : decode c_Stage_handle 25 = .ok (.return_, 1) := by decide +kernel
theorem d_Stage_watch_0 : decode c_Stage_watch 0 = .ok (.aload_n 0, 1) := by decide +kernel
theorem d_Stage_watch_1 : decode c_Stage_watch 1 = .ok (.getfield 16, 3) := by decide +kernel
theorem d_Stage_watch_4 : decode c_Stage_watch 4 = .ok (.aload_n 0, 1) := by decide +kernel
theorem d_Stage_watch_5 : decode c_Stage_watch 5 = .ok (.getfield 19, 3) := by decide +kernel
theorem d_Stage_watch_8 : decode c_Stage_watch 8 = .ok (.aload_n 1, 1) := by decide +kernel
theorem d_Stage_watch_9 : decode c_Stage_watch 9 = .ok (.getfield 41, 3) := by decide +kernel
theorem d_Stage_watch_12 : decode c_Stage_watch 12 = .ok (.invokestatic 48, 3) := by decide +kernel
theorem d_Stage_watch_15 : decode c_Stage_watch 15 = .ok (.istore_n 2, 1) := by decide +kernel
theorem d_Stage_watch_16 : decode c_Stage_watch 16 = .ok (.aload_n 1, 1) := by decide +kernel
theorem d_Stage_watch_17 : decode c_Stage_watch 17 = .ok (.getfield 30, 3) := by decide +kernel
theorem d_Stage_watch_20 : decode c_Stage_watch 20 = .ok (.iconst 1, 1) := by decide +kernel
theorem d_Stage_watch_21 : decode c_Stage_watch 21 = .ok (.if_icmp .ne 16, 3) := by decide +kernel
theorem d_Stage_watch_24 : decode c_Stage_watch 24 = .ok (.iload_n 2, 1) := by decide +kernel
theorem d_Stage_watch_25 : decode c_Stage_watch 25 = .ok (.ifCond .eq 12, 3) := by decide +kernel
theorem d_Stage_watch_28 : decode c_Stage_watch 28 = .ok (.aload_n 0, 1) := by decide +kernel
theorem d_Stage_watch_29 : decode c_Stage_watch 29 = .ok (.iconst 3, 1) := by decide +kernel
theorem d_Stage_watch_30 : decode c_Stage_watch 30 = .ok (.iload_n 2, 1) := by decide +kernel
theorem d_Stage_watch_31 : decode c_Stage_watch 31 = .ok (.invokevirtual 44, 3) := by decide +kernel
theorem d_Stage_watch_34 : decode c_Stage_watch 34 = .ok (.goto 8, 3) := by decide +kernel
theorem d_Stage_watch_37 : decode c_Stage_watch 37 = .ok (.aload_n 0, 1) := by decide +kernel
theorem d_Stage_watch_38 : decode c_Stage_watch 38 = .ok (.aload_n 1, 1) := by decide +kernel
theorem d_Stage_watch_39 : decode c_Stage_watch 39 = .ok (.invokevirtual 61, 3) := by decide +kernel
theorem d_Stage_watch_42 : decode c_Stage_watch 42 = .ok (.return_, 1) := by decide +kernel
theorem d_Stage_combine_0 : decode c_Stage_combine 0 = .ok (.aload_n 1, 1) := by decide +kernel
theorem d_Stage_combine_1 : decode c_Stage_combine 1 = .ok (.getfield 30, 3) := by decide +kernel
theorem d_Stage_combine_4 : decode c_Stage_combine 4 = .ok (.iconst 1, 1) := by decide +kernel
theorem d_Stage_combine_5 : decode c_Stage_combine 5 = .ok (.if_icmp .eq 11, 3) := by decide +kernel
theorem d_Stage_combine_8 : decode c_Stage_combine 8 = .ok (.aload_n 0, 1) := by decide +kernel
theorem d_Stage_combine_9 : decode c_Stage_combine 9 = .ok (.aload_n 1, 1) := by decide +kernel
theorem d_Stage_combine_10 : decode c_Stage_combine 10 = .ok (.invokevirtual 61, 3) := by decide +kernel
theorem d_Stage_combine_13 : decode c_Stage_combine 13 = .ok (.goto 32, 3) := by decide +kernel
theorem d_Stage_combine_16 : decode c_Stage_combine 16 = .ok (.aload_n 2, 1) := by decide +kernel
theorem d_Stage_combine_17 : decode c_Stage_combine 17 = .ok (.getfield 30, 3) := by decide +kernel
theorem d_Stage_combine_20 : decode c_Stage_combine 20 = .ok (.iconst 1, 1) := by decide +kernel
theorem d_Stage_combine_21 : decode c_Stage_combine 21 = .ok (.if_icmp .eq 11, 3) := by decide +kernel
theorem d_Stage_combine_24 : decode c_Stage_combine 24 = .ok (.aload_n 0, 1) := by decide +kernel
theorem d_Stage_combine_25 : decode c_Stage_combine 25 = .ok (.aload_n 2, 1) := by decide +kernel
theorem d_Stage_combine_26 : decode c_Stage_combine 26 = .ok (.invokevirtual 61, 3) := by decide +kernel
theorem d_Stage_combine_29 : decode c_Stage_combine 29 = .ok (.goto 16, 3) := by decide +kernel
theorem d_Stage_combine_32 : decode c_Stage_combine 32 = .ok (.aload_n 0, 1) := by decide +kernel
theorem d_Stage_combine_33 : decode c_Stage_combine 33 = .ok (.aload_n 1, 1) := by decide +kernel
theorem d_Stage_combine_34 : decode c_Stage_combine 34 = .ok (.getfield 41, 3) := by decide +kernel
theorem d_Stage_combine_37 : decode c_Stage_combine 37 = .ok (.aload_n 2, 1) := by decide +kernel
theorem d_Stage_combine_38 : decode c_Stage_combine 38 = .ok (.getfield 41, 3) := by decide +kernel
theorem d_Stage_combine_41 : decode c_Stage_combine 41 = .ok (.iadd, 1) := by decide +kernel
theorem d_Stage_combine_42 : decode c_Stage_combine 42 = .ok (.invokevirtual 57, 3) := by decide +kernel
theorem d_Stage_combine_45 : decode c_Stage_combine 45 = .ok (.return_, 1) := by decide +kernel
theorem d_Stage_firstSettledInput_0 : decode c_Stage_firstSettledInput 0 = .ok (.aload_n 0, 1) := by decide +kernel
theorem d_Stage_firstSettledInput_1 : decode c_Stage_firstSettledInput 1 = .ok (.getfield 26, 3) := by decide +kernel
theorem d_Stage_firstSettledInput_4 : decode c_Stage_firstSettledInput 4 = .ok (.iconst 0, 1) := by decide +kernel
theorem d_Stage_firstSettledInput_5 : decode c_Stage_firstSettledInput 5 = .ok (.aaload, 1) := by decide +kernel
theorem d_Stage_firstSettledInput_6 : decode c_Stage_firstSettledInput 6 = .ok (.astore_n 1, 1) := by decide +kernel
theorem d_Stage_firstSettledInput_7 : decode c_Stage_firstSettledInput 7 = .ok (.iconst 1, 1) := by decide +kernel
theorem d_Stage_firstSettledInput_8 : decode c_Stage_firstSettledInput 8 = .ok (.istore_n 2, 1) := by decide +kernel
theorem d_Stage_firstSettledInput_9 : decode c_Stage_firstSettledInput 9 = .ok (.iload_n 2, 1) := by decide +kernel
theorem d_Stage_firstSettledInput_10 : decode c_Stage_firstSettledInput 10 = .ok (.aload_n 0, 1) := by decide +kernel
theorem d_Stage_firstSettledInput_11 : decode c_Stage_firstSettledInput 11 = .ok (.getfield 26, 3) := by decide +kernel
theorem d_Stage_firstSettledInput_14 : decode c_Stage_firstSettledInput 14 = .ok (.arraylength, 1) := by decide +kernel
theorem d_Stage_firstSettledInput_15 : decode c_Stage_firstSettledInput 15 = .ok (.if_icmp .ge 32, 3) := by decide +kernel
theorem d_Stage_firstSettledInput_18 : decode c_Stage_firstSettledInput 18 = .ok (.aload_n 0, 1) := by decide +kernel
theorem d_Stage_firstSettledInput_19 : decode c_Stage_firstSettledInput 19 = .ok (.getfield 26, 3) := by decide +kernel
theorem d_Stage_firstSettledInput_22 : decode c_Stage_firstSettledInput 22 = .ok (.iload_n 2, 1) := by decide +kernel
theorem d_Stage_firstSettledInput_23 : decode c_Stage_firstSettledInput 23 = .ok (.aaload, 1) := by decide +kernel
theorem d_Stage_firstSettledInput_24 : decode c_Stage_firstSettledInput 24 = .ok (.getfield 34, 3) := by decide +kernel
theorem d_Stage_firstSettledInput_27 : decode c_Stage_firstSettledInput 27 = .ok (.aload_n 1, 1) := by decide +kernel
theorem d_Stage_firstSettledInput_28 : decode c_Stage_firstSettledInput 28 = .ok (.getfield 34, 3) := by decide +kernel
theorem d_Stage_firstSettledInput_31 : decode c_Stage_firstSettledInput 31 = .ok (.if_icmp .ge 10, 3) := by decide +kernel
theorem d_Stage_firstSettledInput_34 : decode c_Stage_firstSettledInput 34 = .ok (.aload_n 0, 1) := by decide +kernel
theorem d_Stage_firstSettledInput_35 : decode c_Stage_firstSettledInput 35 = .ok (.getfield 26, 3) := by decide +kernel
theorem d_Stage_firstSettledInput_38 : decode c_Stage_firstSettledInput 38 = .ok (.iload_n 2, 1) := by decide +kernel
theorem d_Stage_firstSettledInput_39 : decode c_Stage_firstSettledInput 39 = .ok (.aaload, 1) := by decide +kernel
theorem d_Stage_firstSettledInput_40 : decode c_Stage_firstSettledInput 40 = .ok (.astore_n 1, 1) := by decide +kernel
theorem d_Stage_firstSettledInput_41 : decode c_Stage_firstSettledInput 41 = .ok (.iinc 2 1, 3) := by decide +kernel
theorem d_Stage_firstSettledInput_44 : decode c_Stage_firstSettledInput 44 = .ok (.goto (-35), 3) := by decide +kernel
theorem d_Stage_firstSettledInput_47 : decode c_Stage_firstSettledInput 47 = .ok (.aload_n 1, 1) := by decide +kernel
theorem d_Stage_firstSettledInput_48 : decode c_Stage_firstSettledInput 48 = .ok (.areturn, 1) := by decide +kernel
theorem d_Stage_sumUp_0 : decode c_Stage_sumUp 0 = .ok (.iconst 0, 1) := by decide +kernel
theorem d_Stage_sumUp_1 : decode c_Stage_sumUp 1 = .ok (.istore_n 1, 1) := by decide +kernel
theorem d_Stage_sumUp_2 : decode c_Stage_sumUp 2 = .ok (.iconst 0, 1) := by decide +kernel
theorem d_Stage_sumUp_3 : decode c_Stage_sumUp 3 = .ok (.istore_n 2, 1) := by decide +kernel
theorem d_Stage_sumUp_4 : decode c_Stage_sumUp 4 = .ok (.iload_n 2, 1) := by decide +kernel
theorem d_Stage_sumUp_5 : decode c_Stage_sumUp 5 = .ok (.aload_n 0, 1) := by decide +kernel
theorem d_Stage_sumUp_6 : decode c_Stage_sumUp 6 = .ok (.getfield 26, 3) := by decide +kernel
theorem d_Stage_sumUp_9 : decode c_Stage_sumUp 9 = .ok (.arraylength, 1) := by decide +kernel
theorem d_Stage_sumUp_10 : decode c_Stage_sumUp 10 = .ok (.if_icmp .ge 45, 3) := by decide +kernel
theorem d_Stage_sumUp_13 : decode c_Stage_sumUp 13 = .ok (.aload_n 0, 1) := by decide +kernel
theorem d_Stage_sumUp_14 : decode c_Stage_sumUp 14 = .ok (.getfield 26, 3) := by decide +kernel
theorem d_Stage_sumUp_17 : decode c_Stage_sumUp 17 = .ok (.iload_n 2, 1) := by decide +kernel
theorem d_Stage_sumUp_18 : decode c_Stage_sumUp 18 = .ok (.aaload, 1) := by decide +kernel
theorem d_Stage_sumUp_19 : decode c_Stage_sumUp 19 = .ok (.getfield 30, 3) := by decide +kernel
theorem d_Stage_sumUp_22 : decode c_Stage_sumUp 22 = .ok (.iconst 1, 1) := by decide +kernel
theorem d_Stage_sumUp_23 : decode c_Stage_sumUp 23 = .ok (.if_icmp .eq 14, 3) := by decide +kernel
theorem d_Stage_sumUp_26 : decode c_Stage_sumUp 26 = .ok (.aload_n 0, 1) := by decide +kernel
theorem d_Stage_sumUp_27 : decode c_Stage_sumUp 27 = .ok (.aload_n 0, 1) := by decide +kernel
theorem d_Stage_sumUp_28 : decode c_Stage_sumUp 28 = .ok (.getfield 26, 3) := by decide +kernel
theorem d_Stage_sumUp_31 : decode c_Stage_sumUp 31 = .ok (.iload_n 2, 1) := by decide +kernel
theorem d_Stage_sumUp_32 : decode c_Stage_sumUp 32 = .ok (.aaload, 1) := by decide +kernel
theorem d_Stage_sumUp_33 : decode c_Stage_sumUp 33 = .ok (.invokevirtual 61, 3) := by decide +kernel
theorem d_Stage_sumUp_36 : decode c_Stage_sumUp 36 = .ok (.return_, 1) := by decide +kernel
theorem d_Stage_sumUp_37 : decode c_Stage_sumUp 37 = .ok (.iload_n 1, 1) := by decide +kernel
theorem d_Stage_sumUp_38 : decode c_Stage_sumUp 38 = .ok (.aload_n 0, 1) := by decide +kernel
theorem d_Stage_sumUp_39 : decode c_Stage_sumUp 39 = .ok (.getfield 26, 3) := by decide +kernel
theorem d_Stage_sumUp_42 : decode c_Stage_sumUp 42 = .ok (.iload_n 2, 1) := by decide +kernel
theorem d_Stage_sumUp_43 : decode c_Stage_sumUp 43 = .ok (.aaload, 1) := by decide +kernel
theorem d_Stage_sumUp_44 : decode c_Stage_sumUp 44 = .ok (.getfield 41, 3) := by decide +kernel
theorem d_Stage_sumUp_47 : decode c_Stage_sumUp 47 = .ok (.iadd, 1) := by decide +kernel
theorem d_Stage_sumUp_48 : decode c_Stage_sumUp 48 = .ok (.istore_n 1, 1) := by decide +kernel
theorem d_Stage_sumUp_49 : decode c_Stage_sumUp 49 = .ok (.iinc 2 1, 3) := by decide +kernel
theorem d_Stage_sumUp_52 : decode c_Stage_sumUp 52 = .ok (.goto (-48), 3) := by decide +kernel
theorem d_Stage_sumUp_55 : decode c_Stage_sumUp 55 = .ok (.aload_n 0, 1) := by decide +kernel
theorem d_Stage_sumUp_56 : decode c_Stage_sumUp 56 = .ok (.iconst 1, 1) := by decide +kernel
theorem d_Stage_sumUp_57 : decode c_Stage_sumUp 57 = .ok (.iload_n 1, 1) := by decide +kernel
theorem d_Stage_sumUp_58 : decode c_Stage_sumUp 58 = .ok (.invokevirtual 44, 3) := by decide +kernel
theorem d_Stage_sumUp_61 : decode c_Stage_sumUp 61 = .ok (.return_, 1) := by decide +kernel
theorem d_Queue_placeOf_0 : decode c_Queue_placeOf 0 = .ok (.iconst 0, 1) := by decide +kernel
theorem d_Queue_placeOf_1 : decode c_Queue_placeOf 1 = .ok (.istore_n 2, 1) := by decide +kernel
theorem d_Queue_placeOf_2 : decode c_Queue_placeOf 2 = .ok (.iload_n 2, 1) := by decide +kernel
theorem d_Queue_placeOf_3 : decode c_Queue_placeOf 3 = .ok (.aload_n 0, 1) := by decide +kernel
theorem d_Queue_placeOf_4 : decode c_Queue_placeOf 4 = .ok (.getfield 19, 3) := by decide +kernel
theorem d_Queue_placeOf_7 : decode c_Queue_placeOf 7 = .ok (.if_icmp .ge 29, 3) := by decide +kernel
theorem d_Queue_placeOf_10 : decode c_Queue_placeOf 10 = .ok (.aload_n 0, 1) := by decide +kernel
theorem d_Queue_placeOf_11 : decode c_Queue_placeOf 11 = .ok (.getfield 15, 3) := by decide +kernel
theorem d_Queue_placeOf_14 : decode c_Queue_placeOf 14 = .ok (.aload_n 0, 1) := by decide +kernel
theorem d_Queue_placeOf_15 : decode c_Queue_placeOf 15 = .ok (.getfield 23, 3) := by decide +kernel
theorem d_Queue_placeOf_18 : decode c_Queue_placeOf 18 = .ok (.iload_n 2, 1) := by decide +kernel
theorem d_Queue_placeOf_19 : decode c_Queue_placeOf 19 = .ok (.iadd, 1) := by decide +kernel
theorem d_Queue_placeOf_20 : decode c_Queue_placeOf 20 = .ok (.bipush 48, 2) := by decide +kernel
theorem d_Queue_placeOf_22 : decode c_Queue_placeOf 22 = .ok (.irem, 1) := by decide +kernel
theorem d_Queue_placeOf_23 : decode c_Queue_placeOf 23 = .ok (.aaload, 1) := by decide +kernel
theorem d_Queue_placeOf_24 : decode c_Queue_placeOf 24 = .ok (.aload_n 1, 1) := by decide +kernel
theorem d_Queue_placeOf_25 : decode c_Queue_placeOf 25 = .ok (.if_acmp .ne 5, 3) := by decide +kernel
theorem d_Queue_placeOf_28 : decode c_Queue_placeOf 28 = .ok (.iload_n 2, 1) := by decide +kernel
theorem d_Queue_placeOf_29 : decode c_Queue_placeOf 29 = .ok (.ireturn, 1) := by decide +kernel
theorem d_Queue_placeOf_30 : decode c_Queue_placeOf 30 = .ok (.iinc 2 1, 3) := by decide +kernel
theorem d_Queue_placeOf_33 : decode c_Queue_placeOf 33 = .ok (.goto (-31), 3) := by decide +kernel
theorem d_Queue_placeOf_36 : decode c_Queue_placeOf 36 = .ok (.iconst (-1), 1) := by decide +kernel
theorem d_Queue_placeOf_37 : decode c_Queue_placeOf 37 = .ok (.ireturn, 1) := by decide +kernel
theorem d_Queue_length_0 : decode c_Queue_length 0 = .ok (.aload_n 0, 1) := by decide +kernel
theorem d_Queue_length_1 : decode c_Queue_length 1 = .ok (.getfield 19, 3) := by decide +kernel
theorem d_Queue_length_4 : decode c_Queue_length 4 = .ok (.ireturn, 1) := by decide +kernel
theorem d_Stage_init_0 : decode c_Stage_init 0 = .ok (.aload_n 0, 1) := by decide +kernel
theorem d_Stage_init_1 : decode c_Stage_init 1 = .ok (.invokespecial 1, 3) := by decide +kernel
theorem d_Stage_init_4 : decode c_Stage_init 4 = .ok (.aload_n 0, 1) := by decide +kernel
theorem d_Stage_init_5 : decode c_Stage_init 5 = .ok (.iload_n 1, 1) := by decide +kernel
theorem d_Stage_init_6 : decode c_Stage_init 6 = .ok (.putfield 7, 3) := by decide +kernel
theorem d_Stage_init_9 : decode c_Stage_init 9 = .ok (.aload_n 0, 1) := by decide +kernel
theorem d_Stage_init_10 : decode c_Stage_init 10 = .ok (.iload_n 2, 1) := by decide +kernel
theorem d_Stage_init_11 : decode c_Stage_init 11 = .ok (.putfield 13, 3) := by decide +kernel
theorem d_Stage_init_14 : decode c_Stage_init 14 = .ok (.aload_n 0, 1) := by decide +kernel
theorem d_Stage_init_15 : decode c_Stage_init 15 = .ok (.iload_n 3, 1) := by decide +kernel
theorem d_Stage_init_16 : decode c_Stage_init 16 = .ok (.putfield 16, 3) := by decide +kernel
theorem d_Stage_init_19 : decode c_Stage_init 19 = .ok (.aload_n 0, 1) := by decide +kernel
theorem d_Stage_init_20 : decode c_Stage_init 20 = .ok (.iload 4, 2) := by decide +kernel
theorem d_Stage_init_22 : decode c_Stage_init 22 = .ok (.putfield 19, 3) := by decide +kernel
theorem d_Stage_init_25 : decode c_Stage_init 25 = .ok (.aload_n 0, 1) := by decide +kernel
theorem d_Stage_init_26 : decode c_Stage_init 26 = .ok (.iload 5, 2) := by decide +kernel
theorem d_Stage_init_28 : decode c_Stage_init 28 = .ok (.putfield 22, 3) := by decide +kernel
theorem d_Stage_init_31 : decode c_Stage_init 31 = .ok (.aload_n 0, 1) := by decide +kernel
theorem d_Stage_init_32 : decode c_Stage_init 32 = .ok (.aload 6, 2) := by decide +kernel
theorem d_Stage_init_34 : decode c_Stage_init 34 = .ok (.putfield 26, 3) := by decide +kernel
theorem d_Stage_init_37 : decode c_Stage_init 37 = .ok (.aload_n 0, 1) := by decide +kernel
theorem d_Stage_init_38 : decode c_Stage_init 38 = .ok (.iconst 0, 1) := by decide +kernel
theorem d_Stage_init_39 : decode c_Stage_init 39 = .ok (.putfield 30, 3) := by decide +kernel
theorem d_Stage_init_42 : decode c_Stage_init 42 = .ok (.aload_n 0, 1) := by decide +kernel
theorem d_Stage_init_43 : decode c_Stage_init 43 = .ok (.ldc 33, 2) := by decide +kernel
theorem d_Stage_init_45 : decode c_Stage_init 45 = .ok (.putfield 34, 3) := by decide +kernel
theorem d_Stage_init_48 : decode c_Stage_init 48 = .ok (.return_, 1) := by decide +kernel
theorem d_Fn_has_0 : decode c_Fn_has 0 = .ok (.iload_n 0, 1) := by decide +kernel
theorem d_Fn_has_1 : decode c_Fn_has 1 = .ok (.ifCond .lt 12, 3) := by decide +kernel
theorem d_Fn_has_4 : decode c_Fn_has 4 = .ok (.iload_n 0, 1) := by decide +kernel
theorem d_Fn_has_5 : decode c_Fn_has 5 = .ok (.iconst 5, 1) := by decide +kernel
theorem d_Fn_has_6 : decode c_Fn_has 6 = .ok (.if_icmp .gt 7, 3) := by decide +kernel
theorem d_Fn_has_9 : decode c_Fn_has 9 = .ok (.iconst 1, 1) := by decide +kernel
theorem d_Fn_has_10 : decode c_Fn_has 10 = .ok (.goto 4, 3) := by decide +kernel
theorem d_Fn_has_13 : decode c_Fn_has 13 = .ok (.iconst 0, 1) := by decide +kernel
theorem d_Fn_has_14 : decode c_Fn_has 14 = .ok (.ireturn, 1) := by decide +kernel
