/-! decode rows (by walk.py) -/
theorem d_Ps_init_0 : decode c_Ps_init 0 = .ok (.aload_n 0, 1) := by decide +kernel
theorem d_Ps_init_1 : decode c_Ps_init 1 = .ok (.invokespecial 1, 3) := by decide +kernel
theorem d_Ps_init_4 : decode c_Ps_init 4 = .ok (.aload_n 0, 1) := by decide +kernel
theorem d_Ps_init_5 : decode c_Ps_init 5 = .ok (.new 7, 3) := by decide +kernel
theorem d_Ps_init_8 : decode c_Ps_init 8 = .ok (.dup, 1) := by decide +kernel
theorem d_Ps_init_9 : decode c_Ps_init 9 = .ok (.invokespecial 9, 3) := by decide +kernel
theorem d_Ps_init_12 : decode c_Ps_init 12 = .ok (.putfield 10, 3) := by decide +kernel
theorem d_Ps_init_15 : decode c_Ps_init 15 = .ok (.aload_n 0, 1) := by decide +kernel
theorem d_Ps_init_16 : decode c_Ps_init 16 = .ok (.new 16, 3) := by decide +kernel
theorem d_Ps_init_19 : decode c_Ps_init 19 = .ok (.dup, 1) := by decide +kernel
theorem d_Ps_init_20 : decode c_Ps_init 20 = .ok (.invokespecial 18, 3) := by decide +kernel
theorem d_Ps_init_23 : decode c_Ps_init 23 = .ok (.putfield 19, 3) := by decide +kernel
theorem d_Ps_init_26 : decode c_Ps_init 26 = .ok (.return_, 1) := by decide +kernel
theorem d_Ps_complete_0 : decode c_Ps_complete 0 = .ok (.aload_n 0, 1) := by decide +kernel
theorem d_Ps_complete_1 : decode c_Ps_complete 1 = .ok (.getfield 10, 3) := by decide +kernel
theorem d_Ps_complete_4 : decode c_Ps_complete 4 = .ok (.iload_n 1, 1) := by decide +kernel
theorem d_Ps_complete_5 : decode c_Ps_complete 5 = .ok (.iconst 1, 1) := by decide +kernel
theorem d_Ps_complete_6 : decode c_Ps_complete 6 = .ok (.iload_n 2, 1) := by decide +kernel
theorem d_Ps_complete_7 : decode c_Ps_complete 7 = .ok (.invokevirtual 80, 3) := by decide +kernel
theorem d_Ps_complete_10 : decode c_Ps_complete 10 = .ok (.istore_n 3, 1) := by decide +kernel
theorem d_Ps_complete_11 : decode c_Ps_complete 11 = .ok (.aload_n 0, 1) := by decide +kernel
theorem d_Ps_complete_12 : decode c_Ps_complete 12 = .ok (.getfield 10, 3) := by decide +kernel
theorem d_Ps_complete_15 : decode c_Ps_complete 15 = .ok (.invokevirtual 64, 3) := by decide +kernel
theorem d_Ps_complete_18 : decode c_Ps_complete 18 = .ok (.iload_n 3, 1) := by decide +kernel
theorem d_Ps_complete_19 : decode c_Ps_complete 19 = .ok (.ireturn, 1) := by decide +kernel
theorem d_Ps_fail_0 : decode c_Ps_fail 0 = .ok (.iload_n 2, 1) := by decide +kernel
theorem d_Ps_fail_1 : decode c_Ps_fail 1 = .ok (.iconst 1, 1) := by decide +kernel
theorem d_Ps_fail_2 : decode c_Ps_fail 2 = .ok (.if_icmp .lt 26, 3) := by decide +kernel
theorem d_Ps_fail_5 : decode c_Ps_fail 5 = .ok (.iload_n 2, 1) := by decide +kernel
theorem d_Ps_fail_6 : decode c_Ps_fail 6 = .ok (.bipush 9, 2) := by decide +kernel
theorem d_Ps_fail_8 : decode c_Ps_fail 8 = .ok (.if_icmp .gt 20, 3) := by decide +kernel
theorem d_Ps_fail_11 : decode c_Ps_fail 11 = .ok (.aload_n 0, 1) := by decide +kernel
theorem d_Ps_fail_12 : decode c_Ps_fail 12 = .ok (.getfield 10, 3) := by decide +kernel
theorem d_Ps_fail_15 : decode c_Ps_fail 15 = .ok (.iload_n 1, 1) := by decide +kernel
theorem d_Ps_fail_16 : decode c_Ps_fail 16 = .ok (.iconst 2, 1) := by decide +kernel
theorem d_Ps_fail_17 : decode c_Ps_fail 17 = .ok (.iload_n 2, 1) := by decide +kernel
theorem d_Ps_fail_18 : decode c_Ps_fail 18 = .ok (.invokevirtual 80, 3) := by decide +kernel
theorem d_Ps_fail_21 : decode c_Ps_fail 21 = .ok (.ifCond .eq 7, 3) := by decide +kernel
theorem d_Ps_fail_24 : decode c_Ps_fail 24 = .ok (.iconst 1, 1) := by decide +kernel
theorem d_Ps_fail_25 : decode c_Ps_fail 25 = .ok (.goto 4, 3) := by decide +kernel
theorem d_Ps_fail_28 : decode c_Ps_fail 28 = .ok (.iconst 0, 1) := by decide +kernel
theorem d_Ps_fail_29 : decode c_Ps_fail 29 = .ok (.istore_n 3, 1) := by decide +kernel
theorem d_Ps_fail_30 : decode c_Ps_fail 30 = .ok (.aload_n 0, 1) := by decide +kernel
theorem d_Ps_fail_31 : decode c_Ps_fail 31 = .ok (.getfield 10, 3) := by decide +kernel
theorem d_Ps_fail_34 : decode c_Ps_fail 34 = .ok (.invokevirtual 64, 3) := by decide +kernel
theorem d_Ps_fail_37 : decode c_Ps_fail 37 = .ok (.iload_n 3, 1) := by decide +kernel
theorem d_Ps_fail_38 : decode c_Ps_fail 38 = .ok (.ireturn, 1) := by decide +kernel
theorem d_Ps_cancel_0 : decode c_Ps_cancel 0 = .ok (.aload_n 0, 1) := by decide +kernel
theorem d_Ps_cancel_1 : decode c_Ps_cancel 1 = .ok (.getfield 10, 3) := by decide +kernel
theorem d_Ps_cancel_4 : decode c_Ps_cancel 4 = .ok (.iload_n 1, 1) := by decide +kernel
theorem d_Ps_cancel_5 : decode c_Ps_cancel 5 = .ok (.iconst 2, 1) := by decide +kernel
theorem d_Ps_cancel_6 : decode c_Ps_cancel 6 = .ok (.iconst 0, 1) := by decide +kernel
theorem d_Ps_cancel_7 : decode c_Ps_cancel 7 = .ok (.invokevirtual 80, 3) := by decide +kernel
theorem d_Ps_cancel_10 : decode c_Ps_cancel 10 = .ok (.istore_n 2, 1) := by decide +kernel
theorem d_Ps_cancel_11 : decode c_Ps_cancel 11 = .ok (.aload_n 0, 1) := by decide +kernel
theorem d_Ps_cancel_12 : decode c_Ps_cancel 12 = .ok (.getfield 10, 3) := by decide +kernel
theorem d_Ps_cancel_15 : decode c_Ps_cancel 15 = .ok (.invokevirtual 64, 3) := by decide +kernel
theorem d_Ps_cancel_18 : decode c_Ps_cancel 18 = .ok (.iload_n 2, 1) := by decide +kernel
theorem d_Ps_cancel_19 : decode c_Ps_cancel 19 = .ok (.ireturn, 1) := by decide +kernel
theorem d_Ps_work_0 : decode c_Ps_work 0 = .ok (.iload_n 1, 1) := by decide +kernel
theorem d_Ps_work_1 : decode c_Ps_work 1 = .ok (.invokestatic 84, 3) := by decide +kernel
theorem d_Ps_work_4 : decode c_Ps_work 4 = .ok (.ifCond .ne 5, 3) := by decide +kernel
theorem d_Ps_work_7 : decode c_Ps_work 7 = .ok (.iconst (-1), 1) := by decide +kernel
theorem d_Ps_work_8 : decode c_Ps_work 8 = .ok (.ireturn, 1) := by decide +kernel
theorem d_Ps_work_9 : decode c_Ps_work 9 = .ok (.iconst 0, 1) := by decide +kernel
theorem d_Ps_work_10 : decode c_Ps_work 10 = .ok (.istore_n 2, 1) := by decide +kernel
theorem d_Ps_work_11 : decode c_Ps_work 11 = .ok (.iload_n 2, 1) := by decide +kernel
theorem d_Ps_work_12 : decode c_Ps_work 12 = .ok (.iload_n 1, 1) := by decide +kernel
theorem d_Ps_work_13 : decode c_Ps_work 13 = .ok (.if_icmp .ge 26, 3) := by decide +kernel
theorem d_Ps_work_16 : decode c_Ps_work 16 = .ok (.aload_n 0, 1) := by decide +kernel
theorem d_Ps_work_17 : decode c_Ps_work 17 = .ok (.getfield 10, 3) := by decide +kernel
theorem d_Ps_work_20 : decode c_Ps_work 20 = .ok (.invokevirtual 87, 3) := by decide +kernel
theorem d_Ps_work_23 : decode c_Ps_work 23 = .ok (.ifCond .eq 16, 3) := by decide +kernel
theorem d_Ps_work_26 : decode c_Ps_work 26 = .ok (.aload_n 0, 1) := by decide +kernel
theorem d_Ps_work_27 : decode c_Ps_work 27 = .ok (.getfield 10, 3) := by decide +kernel
theorem d_Ps_work_30 : decode c_Ps_work 30 = .ok (.invokevirtual 64, 3) := by decide +kernel
theorem d_Ps_work_33 : decode c_Ps_work 33 = .ok (.iinc 2 1, 3) := by decide +kernel
theorem d_Ps_work_36 : decode c_Ps_work 36 = .ok (.goto (-25), 3) := by decide +kernel
theorem d_Ps_work_39 : decode c_Ps_work 39 = .ok (.iload_n 2, 1) := by decide +kernel
theorem d_Ps_work_40 : decode c_Ps_work 40 = .ok (.ireturn, 1) := by decide +kernel
theorem d_Ps_isStepCount_0 : decode c_Ps_isStepCount 0 = .ok (.iload_n 0, 1) := by decide +kernel
theorem d_Ps_isStepCount_1 : decode c_Ps_isStepCount 1 = .ok (.ifCond .lt 13, 3) := by decide +kernel
theorem d_Ps_isStepCount_4 : decode c_Ps_isStepCount 4 = .ok (.iload_n 0, 1) := by decide +kernel
theorem d_Ps_isStepCount_5 : decode c_Ps_isStepCount 5 = .ok (.bipush 60, 2) := by decide +kernel
theorem d_Ps_isStepCount_7 : decode c_Ps_isStepCount 7 = .ok (.if_icmp .gt 7, 3) := by decide +kernel
theorem d_Ps_isStepCount_10 : decode c_Ps_isStepCount 10 = .ok (.iconst 1, 1) := by decide +kernel
theorem d_Ps_isStepCount_11 : decode c_Ps_isStepCount 11 = .ok (.goto 4, 3) := by decide +kernel
theorem d_Ps_isStepCount_14 : decode c_Ps_isStepCount 14 = .ok (.iconst 0, 1) := by decide +kernel
theorem d_Ps_isStepCount_15 : decode c_Ps_isStepCount 15 = .ok (.ireturn, 1) := by decide +kernel
theorem d_Ps_stage_0 : decode c_Ps_stage 0 = .ok (.aload_n 0, 1) := by decide +kernel
theorem d_Ps_stage_1 : decode c_Ps_stage 1 = .ok (.getfield 10, 3) := by decide +kernel
theorem d_Ps_stage_4 : decode c_Ps_stage 4 = .ok (.iload_n 1, 1) := by decide +kernel
theorem d_Ps_stage_5 : decode c_Ps_stage 5 = .ok (.invokevirtual 90, 3) := by decide +kernel
theorem d_Ps_stage_8 : decode c_Ps_stage 8 = .ok (.astore_n 3, 1) := by decide +kernel
theorem d_Ps_stage_9 : decode c_Ps_stage 9 = .ok (.aload_n 3, 1) := by decide +kernel
theorem d_Ps_stage_10 : decode c_Ps_stage 10 = .ok (.ifnonnull 5, 3) := by decide +kernel
theorem d_Ps_stage_13 : decode c_Ps_stage 13 = .ok (.iconst (-1), 1) := by decide +kernel
theorem d_Ps_stage_14 : decode c_Ps_stage 14 = .ok (.ireturn, 1) := by decide +kernel
theorem d_Ps_stage_15 : decode c_Ps_stage 15 = .ok (.iload_n 2, 1) := by decide +kernel
theorem d_Ps_stage_16 : decode c_Ps_stage 16 = .ok (.tableswitch 56 0 3 #[32, 37, 42, 47], 32) := by decide +kernel
theorem d_Ps_stage_48 : decode c_Ps_stage 48 = .ok (.aload_n 3, 1) := by decide +kernel
theorem d_Ps_stage_49 : decode c_Ps_stage 49 = .ok (.getfield 96, 3) := by decide +kernel
theorem d_Ps_stage_52 : decode c_Ps_stage 52 = .ok (.ireturn, 1) := by decide +kernel
theorem d_Ps_stage_53 : decode c_Ps_stage 53 = .ok (.aload_n 3, 1) := by decide +kernel
theorem d_Ps_stage_54 : decode c_Ps_stage 54 = .ok (.getfield 106, 3) := by decide +kernel
theorem d_Ps_stage_57 : decode c_Ps_stage 57 = .ok (.ireturn, 1) := by decide +kernel
theorem d_Ps_stage_58 : decode c_Ps_stage 58 = .ok (.aload_n 3, 1) := by decide +kernel
theorem d_Ps_stage_59 : decode c_Ps_stage 59 = .ok (.getfield 109, 3) := by decide +kernel
theorem d_Ps_stage_62 : decode c_Ps_stage 62 = .ok (.ireturn, 1) := by decide +kernel
theorem d_Ps_stage_63 : decode c_Ps_stage 63 = .ok (.aload_n 0, 1) := by decide +kernel
theorem d_Ps_stage_64 : decode c_Ps_stage 64 = .ok (.getfield 10, 3) := by decide +kernel
theorem d_Ps_stage_67 : decode c_Ps_stage 67 = .ok (.aload_n 3, 1) := by decide +kernel
theorem d_Ps_stage_68 : decode c_Ps_stage 68 = .ok (.invokevirtual 112, 3) := by decide +kernel
theorem d_Ps_stage_71 : decode c_Ps_stage 71 = .ok (.ireturn, 1) := by decide +kernel
theorem d_Ps_stage_72 : decode c_Ps_stage 72 = .ok (.iconst (-1), 1) := by decide +kernel
theorem d_Ps_stage_73 : decode c_Ps_stage 73 = .ok (.ireturn, 1) := by decide +kernel
theorem d_Ps_count_0 : decode c_Ps_count 0 = .ok (.iload_n 1, 1) := by decide +kernel
theorem d_Ps_count_1 : decode c_Ps_count 1 = .ok (.tableswitch 75 0 4 #[35, 43, 51, 59, 67], 35) := by decide +kernel
theorem d_Ps_count_36 : decode c_Ps_count 36 = .ok (.aload_n 0, 1) := by decide +kernel
theorem d_Ps_count_37 : decode c_Ps_count 37 = .ok (.getfield 10, 3) := by decide +kernel
theorem d_Ps_count_40 : decode c_Ps_count 40 = .ok (.getfield 116, 3) := by decide +kernel
theorem d_Ps_count_43 : decode c_Ps_count 43 = .ok (.ireturn, 1) := by decide +kernel
theorem d_Ps_count_44 : decode c_Ps_count 44 = .ok (.aload_n 0, 1) := by decide +kernel
theorem d_Ps_count_45 : decode c_Ps_count 45 = .ok (.getfield 10, 3) := by decide +kernel
theorem d_Ps_count_48 : decode c_Ps_count 48 = .ok (.invokevirtual 119, 3) := by decide +kernel
theorem d_Ps_count_51 : decode c_Ps_count 51 = .ok (.ireturn, 1) := by decide +kernel
theorem d_Ps_count_52 : decode c_Ps_count 52 = .ok (.aload_n 0, 1) := by decide +kernel
theorem d_Ps_count_53 : decode c_Ps_count 53 = .ok (.getfield 19, 3) := by decide +kernel
theorem d_Ps_count_56 : decode c_Ps_count 56 = .ok (.getfield 123, 3) := by decide +kernel
theorem d_Ps_count_59 : decode c_Ps_count 59 = .ok (.ireturn, 1) := by decide +kernel
theorem d_Ps_count_60 : decode c_Ps_count 60 = .ok (.aload_n 0, 1) := by decide +kernel
theorem d_Ps_count_61 : decode c_Ps_count 61 = .ok (.getfield 19, 3) := by decide +kernel
theorem d_Ps_count_64 : decode c_Ps_count 64 = .ok (.getfield 126, 3) := by decide +kernel
theorem d_Ps_count_67 : decode c_Ps_count 67 = .ok (.ireturn, 1) := by decide +kernel
theorem d_Ps_count_68 : decode c_Ps_count 68 = .ok (.aload_n 0, 1) := by decide +kernel
theorem d_Ps_count_69 : decode c_Ps_count 69 = .ok (.getfield 19, 3) := by decide +kernel
theorem d_Ps_count_72 : decode c_Ps_count 72 = .ok (.getfield 129, 3) := by decide +kernel
theorem d_Ps_count_75 : decode c_Ps_count 75 = .ok (.ireturn, 1) := by decide +kernel
theorem d_Ps_count_76 : decode c_Ps_count 76 = .ok (.iconst (-1), 1) := by decide +kernel
theorem d_Ps_count_77 : decode c_Ps_count 77 = .ok (.ireturn, 1) := by decide +kernel
theorem d_Ps_bind_0 : decode c_Ps_bind 0 = .ok (.aload_n 0, 1) := by decide +kernel
theorem d_Ps_bind_1 : decode c_Ps_bind 1 = .ok (.getfield 19, 3) := by decide +kernel
theorem d_Ps_bind_4 : decode c_Ps_bind 4 = .ok (.iload_n 1, 1) := by decide +kernel
theorem d_Ps_bind_5 : decode c_Ps_bind 5 = .ok (.invokevirtual 132, 3) := by decide +kernel
theorem d_Ps_bind_8 : decode c_Ps_bind 8 = .ok (.astore 4, 2) := by decide +kernel
theorem d_Ps_bind_10 : decode c_Ps_bind 10 = .ok (.aload 4, 2) := by decide +kernel
theorem d_Ps_bind_12 : decode c_Ps_bind 12 = .ok (.ifnull 10, 3) := by decide +kernel
theorem d_Ps_bind_15 : decode c_Ps_bind 15 = .ok (.iload_n 2, 1) := by decide +kernel
theorem d_Ps_bind_16 : decode c_Ps_bind 16 = .ok (.invokestatic 151, 3) := by decide +kernel
theorem d_Ps_bind_19 : decode c_Ps_bind 19 = .ok (.ifCond .ne 5, 3) := by decide +kernel
theorem d_Ps_bind_22 : decode c_Ps_bind 22 = .ok (.iconst 0, 1) := by decide +kernel
theorem d_Ps_bind_23 : decode c_Ps_bind 23 = .ok (.ireturn, 1) := by decide +kernel
theorem d_Ps_bind_24 : decode c_Ps_bind 24 = .ok (.aload 4, 2) := by decide +kernel
theorem d_Ps_bind_26 : decode c_Ps_bind 26 = .ok (.iload_n 2, 1) := by decide +kernel
theorem d_Ps_bind_27 : decode c_Ps_bind 27 = .ok (.iload_n 3, 1) := by decide +kernel
theorem d_Ps_bind_28 : decode c_Ps_bind 28 = .ok (.invokevirtual 154, 3) := by decide +kernel
theorem d_Ps_bind_31 : decode c_Ps_bind 31 = .ok (.iconst 1, 1) := by decide +kernel
theorem d_Ps_bind_32 : decode c_Ps_bind 32 = .ok (.ireturn, 1) := by decide +kernel
theorem d_Ps_joinScope_0 : decode c_Ps_joinScope 0 = .ok (.aload_n 0, 1) := by decide +kernel
theorem d_Ps_joinScope_1 : decode c_Ps_joinScope 1 = .ok (.getfield 19, 3) := by decide +kernel
theorem d_Ps_joinScope_4 : decode c_Ps_joinScope 4 = .ok (.iload_n 1, 1) := by decide +kernel
theorem d_Ps_joinScope_5 : decode c_Ps_joinScope 5 = .ok (.invokevirtual 132, 3) := by decide +kernel
theorem d_Ps_joinScope_8 : decode c_Ps_joinScope 8 = .ok (.astore_n 2, 1) := by decide +kernel
theorem d_Ps_joinScope_9 : decode c_Ps_joinScope 9 = .ok (.aload_n 2, 1) := by decide +kernel
theorem d_Ps_joinScope_10 : decode c_Ps_joinScope 10 = .ok (.ifnull 14, 3) := by decide +kernel
theorem d_Ps_joinScope_13 : decode c_Ps_joinScope 13 = .ok (.aload_n 0, 1) := by decide +kernel
theorem d_Ps_joinScope_14 : decode c_Ps_joinScope 14 = .ok (.getfield 19, 3) := by decide +kernel
theorem d_Ps_joinScope_17 : decode c_Ps_joinScope 17 = .ok (.aload_n 2, 1) := by decide +kernel
theorem d_Ps_joinScope_18 : decode c_Ps_joinScope 18 = .ok (.invokevirtual 174, 3) := by decide +kernel
theorem d_Ps_joinScope_21 : decode c_Ps_joinScope 21 = .ok (.ifCond .eq 5, 3) := by decide +kernel
theorem d_Ps_joinScope_24 : decode c_Ps_joinScope 24 = .ok (.iconst 0, 1) := by decide +kernel
theorem d_Ps_joinScope_25 : decode c_Ps_joinScope 25 = .ok (.ireturn, 1) := by decide +kernel
theorem d_Ps_joinScope_26 : decode c_Ps_joinScope 26 = .ok (.aload_n 2, 1) := by decide +kernel
theorem d_Ps_joinScope_27 : decode c_Ps_joinScope 27 = .ok (.iconst 1, 1) := by decide +kernel
theorem d_Ps_joinScope_28 : decode c_Ps_joinScope 28 = .ok (.putfield 178, 3) := by decide +kernel
theorem d_Ps_joinScope_31 : decode c_Ps_joinScope 31 = .ok (.aload_n 0, 1) := by decide +kernel
theorem d_Ps_joinScope_32 : decode c_Ps_joinScope 32 = .ok (.getfield 19, 3) := by decide +kernel
theorem d_Ps_joinScope_35 : decode c_Ps_joinScope 35 = .ok (.aload_n 0, 1) := by decide +kernel
theorem d_Ps_joinScope_36 : decode c_Ps_joinScope 36 = .ok (.getfield 10, 3) := by decide +kernel
theorem d_Ps_joinScope_39 : decode c_Ps_joinScope 39 = .ok (.invokevirtual 179, 3) := by decide +kernel
theorem d_Ps_joinScope_42 : decode c_Ps_joinScope 42 = .ok (.aload_n 0, 1) := by decide +kernel
theorem d_Ps_joinScope_43 : decode c_Ps_joinScope 43 = .ok (.getfield 10, 3) := by decide +kernel
theorem d_Ps_joinScope_46 : decode c_Ps_joinScope 46 = .ok (.invokevirtual 64, 3) := by decide +kernel
theorem d_Ps_joinScope_49 : decode c_Ps_joinScope 49 = .ok (.iconst 1, 1) := by decide +kernel
theorem d_Ps_joinScope_50 : decode c_Ps_joinScope 50 = .ok (.ireturn, 1) := by decide +kernel
theorem d_Ps_cancelScope_0 : decode c_Ps_cancelScope 0 = .ok (.aload_n 0, 1) := by decide +kernel
theorem d_Ps_cancelScope_1 : decode c_Ps_cancelScope 1 = .ok (.getfield 19, 3) := by decide +kernel
theorem d_Ps_cancelScope_4 : decode c_Ps_cancelScope 4 = .ok (.iload_n 1, 1) := by decide +kernel
theorem d_Ps_cancelScope_5 : decode c_Ps_cancelScope 5 = .ok (.invokevirtual 145, 3) := by decide +kernel
theorem d_Ps_cancelScope_8 : decode c_Ps_cancelScope 8 = .ok (.astore_n 2, 1) := by decide +kernel
theorem d_Ps_cancelScope_9 : decode c_Ps_cancelScope 9 = .ok (.aload_n 2, 1) := by decide +kernel
theorem d_Ps_cancelScope_10 : decode c_Ps_cancelScope 10 = .ok (.ifnull 11, 3) := by decide +kernel
theorem d_Ps_cancelScope_13 : decode c_Ps_cancelScope 13 = .ok (.aload_n 2, 1) := by decide +kernel
theorem d_Ps_cancelScope_14 : decode c_Ps_cancelScope 14 = .ok (.getfield 178, 3) := by decide +kernel
theorem d_Ps_cancelScope_17 : decode c_Ps_cancelScope 17 = .ok (.iconst 2, 1) := by decide +kernel
theorem d_Ps_cancelScope_18 : decode c_Ps_cancelScope 18 = .ok (.if_icmp .ne 5, 3) := by decide +kernel
theorem d_Ps_cancelScope_21 : decode c_Ps_cancelScope 21 = .ok (.iconst 0, 1) := by decide +kernel
theorem d_Ps_cancelScope_22 : decode c_Ps_cancelScope 22 = .ok (.ireturn, 1) := by decide +kernel
theorem d_Ps_cancelScope_23 : decode c_Ps_cancelScope 23 = .ok (.aload_n 0, 1) := by decide +kernel
theorem d_Ps_cancelScope_24 : decode c_Ps_cancelScope 24 = .ok (.getfield 19, 3) := by decide +kernel
theorem d_Ps_cancelScope_27 : decode c_Ps_cancelScope 27 = .ok (.aload_n 2, 1) := by decide +kernel
theorem d_Ps_cancelScope_28 : decode c_Ps_cancelScope 28 = .ok (.invokevirtual 183, 3) := by decide +kernel
theorem d_Ps_cancelScope_31 : decode c_Ps_cancelScope 31 = .ok (.aload_n 0, 1) := by decide +kernel
theorem d_Ps_cancelScope_32 : decode c_Ps_cancelScope 32 = .ok (.getfield 19, 3) := by decide +kernel
theorem d_Ps_cancelScope_35 : decode c_Ps_cancelScope 35 = .ok (.aload_n 0, 1) := by decide +kernel
theorem d_Ps_cancelScope_36 : decode c_Ps_cancelScope 36 = .ok (.getfield 10, 3) := by decide +kernel
theorem d_Ps_cancelScope_39 : decode c_Ps_cancelScope 39 = .ok (.invokevirtual 179, 3) := by decide +kernel
theorem d_Ps_cancelScope_42 : decode c_Ps_cancelScope 42 = .ok (.aload_n 0, 1) := by decide +kernel
theorem d_Ps_cancelScope_43 : decode c_Ps_cancelScope 43 = .ok (.getfield 10, 3) := by decide +kernel
theorem d_Ps_cancelScope_46 : decode c_Ps_cancelScope 46 = .ok (.invokevirtual 64, 3) := by decide +kernel
theorem d_Ps_cancelScope_49 : decode c_Ps_cancelScope 49 = .ok (.iconst 1, 1) := by decide +kernel
theorem d_Ps_cancelScope_50 : decode c_Ps_cancelScope 50 = .ok (.ireturn, 1) := by decide +kernel
theorem d_Ps_tick_0 : decode c_Ps_tick 0 = .ok (.iload_n 1, 1) := by decide +kernel
theorem d_Ps_tick_1 : decode c_Ps_tick 1 = .ok (.invokestatic 84, 3) := by decide +kernel
theorem d_Ps_tick_4 : decode c_Ps_tick 4 = .ok (.ifCond .ne 5, 3) := by decide +kernel
theorem d_Ps_tick_7 : decode c_Ps_tick 7 = .ok (.iconst (-1), 1) := by decide +kernel
theorem d_Ps_tick_8 : decode c_Ps_tick 8 = .ok (.ireturn, 1) := by decide +kernel
theorem d_Ps_tick_9 : decode c_Ps_tick 9 = .ok (.iconst 0, 1) := by decide +kernel
theorem d_Ps_tick_10 : decode c_Ps_tick 10 = .ok (.istore_n 2, 1) := by decide +kernel
theorem d_Ps_tick_11 : decode c_Ps_tick 11 = .ok (.iconst 0, 1) := by decide +kernel
theorem d_Ps_tick_12 : decode c_Ps_tick 12 = .ok (.istore_n 3, 1) := by decide +kernel
theorem d_Ps_tick_13 : decode c_Ps_tick 13 = .ok (.iload_n 3, 1) := by decide +kernel
theorem d_Ps_tick_14 : decode c_Ps_tick 14 = .ok (.iload_n 1, 1) := by decide +kernel
theorem d_Ps_tick_15 : decode c_Ps_tick 15 = .ok (.if_icmp .ge 37, 3) := by decide +kernel
theorem d_Ps_tick_18 : decode c_Ps_tick 18 = .ok (.iload_n 2, 1) := by decide +kernel
theorem d_Ps_tick_19 : decode c_Ps_tick 19 = .ok (.aload_n 0, 1) := by decide +kernel
theorem d_Ps_tick_20 : decode c_Ps_tick 20 = .ok (.getfield 19, 3) := by decide +kernel
theorem d_Ps_tick_23 : decode c_Ps_tick 23 = .ok (.invokevirtual 187, 3) := by decide +kernel
theorem d_Ps_tick_26 : decode c_Ps_tick 26 = .ok (.iadd, 1) := by decide +kernel
theorem d_Ps_tick_27 : decode c_Ps_tick 27 = .ok (.istore_n 2, 1) := by decide +kernel
theorem d_Ps_tick_28 : decode c_Ps_tick 28 = .ok (.aload_n 0, 1) := by decide +kernel
theorem d_Ps_tick_29 : decode c_Ps_tick 29 = .ok (.getfield 19, 3) := by decide +kernel
theorem d_Ps_tick_32 : decode c_Ps_tick 32 = .ok (.aload_n 0, 1) := by decide +kernel
theorem d_Ps_tick_33 : decode c_Ps_tick 33 = .ok (.getfield 10, 3) := by decide +kernel
theorem d_Ps_tick_36 : decode c_Ps_tick 36 = .ok (.invokevirtual 179, 3) := by decide +kernel
theorem d_Ps_tick_39 : decode c_Ps_tick 39 = .ok (.aload_n 0, 1) := by decide +kernel
theorem d_Ps_tick_40 : decode c_Ps_tick 40 = .ok (.getfield 10, 3) := by decide +kernel
theorem d_Ps_tick_43 : decode c_Ps_tick 43 = .ok (.invokevirtual 64, 3) := by decide +kernel
theorem d_Ps_tick_46 : decode c_Ps_tick 46 = .ok (.iinc 3 1, 3) := by decide +kernel
theorem d_Ps_tick_49 : decode c_Ps_tick 49 = .ok (.goto (-36), 3) := by decide +kernel
theorem d_Ps_tick_52 : decode c_Ps_tick 52 = .ok (.iload_n 2, 1) := by decide +kernel
theorem d_Ps_tick_53 : decode c_Ps_tick 53 = .ok (.ireturn, 1) := by decide +kernel
theorem d_Ps_scope_0 : decode c_Ps_scope 0 = .ok (.aload_n 0, 1) := by decide +kernel
theorem d_Ps_scope_1 : decode c_Ps_scope 1 = .ok (.getfield 19, 3) := by decide +kernel
theorem d_Ps_scope_4 : decode c_Ps_scope 4 = .ok (.iload_n 1, 1) := by decide +kernel
theorem d_Ps_scope_5 : decode c_Ps_scope 5 = .ok (.invokevirtual 145, 3) := by decide +kernel
theorem d_Ps_scope_8 : decode c_Ps_scope 8 = .ok (.astore_n 3, 1) := by decide +kernel
theorem d_Ps_scope_9 : decode c_Ps_scope 9 = .ok (.aload_n 3, 1) := by decide +kernel
theorem d_Ps_scope_10 : decode c_Ps_scope 10 = .ok (.ifnonnull 5, 3) := by decide +kernel
theorem d_Ps_scope_13 : decode c_Ps_scope 13 = .ok (.iconst (-1), 1) := by decide +kernel
theorem d_Ps_scope_14 : decode c_Ps_scope 14 = .ok (.ireturn, 1) := by decide +kernel
theorem d_Ps_scope_15 : decode c_Ps_scope 15 = .ok (.iload_n 2, 1) := by decide +kernel
theorem d_Ps_scope_16 : decode c_Ps_scope 16 = .ok (.tableswitch 104 0 5 #[40, 45, 53, 58, 68, 94], 40) := by decide +kernel
theorem d_Ps_scope_56 : decode c_Ps_scope 56 = .ok (.aload_n 3, 1) := by decide +kernel
theorem d_Ps_scope_57 : decode c_Ps_scope 57 = .ok (.getfield 178, 3) := by decide +kernel
theorem d_Ps_scope_60 : decode c_Ps_scope 60 = .ok (.ireturn, 1) := by decide +kernel
theorem d_Ps_scope_61 : decode c_Ps_scope 61 = .ok (.aload_n 3, 1) := by decide +kernel
theorem d_Ps_scope_62 : decode c_Ps_scope 62 = .ok (.getfield 190, 3) := by decide +kernel
theorem d_Ps_scope_65 : decode c_Ps_scope 65 = .ok (.getfield 38, 3) := by decide +kernel
theorem d_Ps_scope_68 : decode c_Ps_scope 68 = .ok (.ireturn, 1) := by decide +kernel
theorem d_Ps_scope_69 : decode c_Ps_scope 69 = .ok (.aload_n 3, 1) := by decide +kernel
theorem d_Ps_scope_70 : decode c_Ps_scope 70 = .ok (.getfield 194, 3) := by decide +kernel
theorem d_Ps_scope_73 : decode c_Ps_scope 73 = .ok (.ireturn, 1) := by decide +kernel
theorem d_Ps_scope_74 : decode c_Ps_scope 74 = .ok (.aload_n 0, 1) := by decide +kernel
theorem d_Ps_scope_75 : decode c_Ps_scope 75 = .ok (.getfield 19, 3) := by decide +kernel
theorem d_Ps_scope_78 : decode c_Ps_scope 78 = .ok (.aload_n 3, 1) := by decide +kernel
theorem d_Ps_scope_79 : decode c_Ps_scope 79 = .ok (.iconst 0, 1) := by decide +kernel
theorem d_Ps_scope_80 : decode c_Ps_scope 80 = .ok (.invokevirtual 197, 3) := by decide +kernel
theorem d_Ps_scope_83 : decode c_Ps_scope 83 = .ok (.ireturn, 1) := by decide +kernel
theorem d_Ps_scope_84 : decode c_Ps_scope 84 = .ok (.aload_n 3, 1) := by decide +kernel
theorem d_Ps_scope_85 : decode c_Ps_scope 85 = .ok (.getfield 201, 3) := by decide +kernel
theorem d_Ps_scope_88 : decode c_Ps_scope 88 = .ok (.ifCond .eq 7, 3) := by decide +kernel
theorem d_Ps_scope_91 : decode c_Ps_scope 91 = .ok (.iconst 1, 1) := by decide +kernel
theorem d_Ps_scope_92 : decode c_Ps_scope 92 = .ok (.goto 4, 3) := by decide +kernel
theorem d_Ps_scope_95 : decode c_Ps_scope 95 = .ok (.iconst 0, 1) := by decide +kernel
theorem d_Ps_scope_96 : decode c_Ps_scope 96 = .ok (.aload_n 3, 1) := by decide +kernel
theorem d_Ps_scope_97 : decode c_Ps_scope 97 = .ok (.getfield 205, 3) := by decide +kernel
theorem d_Ps_scope_100 : decode c_Ps_scope 100 = .ok (.ifCond .eq 7, 3) := by decide +kernel
theorem d_Ps_scope_103 : decode c_Ps_scope 103 = .ok (.iconst 2, 1) := by decide +kernel
theorem d_Ps_scope_104 : decode c_Ps_scope 104 = .ok (.goto 4, 3) := by decide +kernel
theorem d_Ps_scope_107 : decode c_Ps_scope 107 = .ok (.iconst 0, 1) := by decide +kernel
theorem d_Ps_scope_108 : decode c_Ps_scope 108 = .ok (.iadd, 1) := by decide +kernel
theorem d_Ps_scope_109 : decode c_Ps_scope 109 = .ok (.ireturn, 1) := by decide +kernel
theorem d_Ps_scope_110 : decode c_Ps_scope 110 = .ok (.aload_n 0, 1) := by decide +kernel
theorem d_Ps_scope_111 : decode c_Ps_scope 111 = .ok (.getfield 19, 3) := by decide +kernel
theorem d_Ps_scope_114 : decode c_Ps_scope 114 = .ok (.aload_n 3, 1) := by decide +kernel
theorem d_Ps_scope_115 : decode c_Ps_scope 115 = .ok (.iconst 2, 1) := by decide +kernel
theorem d_Ps_scope_116 : decode c_Ps_scope 116 = .ok (.invokevirtual 197, 3) := by decide +kernel
theorem d_Ps_scope_119 : decode c_Ps_scope 119 = .ok (.ireturn, 1) := by decide +kernel
theorem d_Ps_scope_120 : decode c_Ps_scope 120 = .ok (.iconst (-1), 1) := by decide +kernel
theorem d_Ps_scope_121 : decode c_Ps_scope 121 = .ok (.ireturn, 1) := by decide +kernel
theorem d_Ps_task_0 : decode c_Ps_task 0 = .ok (.aload_n 0, 1) := by decide +kernel
theorem d_Ps_task_1 : decode c_Ps_task 1 = .ok (.getfield 19, 3) := by decide +kernel
theorem d_Ps_task_4 : decode c_Ps_task 4 = .ok (.iload_n 1, 1) := by decide +kernel
theorem d_Ps_task_5 : decode c_Ps_task 5 = .ok (.invokevirtual 214, 3) := by decide +kernel
theorem d_Ps_task_8 : decode c_Ps_task 8 = .ok (.astore_n 3, 1) := by decide +kernel
theorem d_Ps_task_9 : decode c_Ps_task 9 = .ok (.aload_n 3, 1) := by decide +kernel
theorem d_Ps_task_10 : decode c_Ps_task 10 = .ok (.ifnonnull 5, 3) := by decide +kernel
theorem d_Ps_task_13 : decode c_Ps_task 13 = .ok (.iconst (-1), 1) := by decide +kernel
theorem d_Ps_task_14 : decode c_Ps_task 14 = .ok (.ireturn, 1) := by decide +kernel
theorem d_Ps_task_15 : decode c_Ps_task 15 = .ok (.iload_n 2, 1) := by decide +kernel
theorem d_Ps_task_16 : decode c_Ps_task 16 = .ok (.tableswitch 55 0 3 #[32, 37, 45, 50], 32) := by decide +kernel
theorem d_Ps_task_48 : decode c_Ps_task 48 = .ok (.aload_n 3, 1) := by decide +kernel
theorem d_Ps_task_49 : decode c_Ps_task 49 = .ok (.getfield 218, 3) := by decide +kernel
theorem d_Ps_task_52 : decode c_Ps_task 52 = .ok (.ireturn, 1) := by decide +kernel
theorem d_Ps_task_53 : decode c_Ps_task 53 = .ok (.aload_n 3, 1) := by decide +kernel
theorem d_Ps_task_54 : decode c_Ps_task 54 = .ok (.getfield 219, 3) := by decide +kernel
theorem d_Ps_task_57 : decode c_Ps_task 57 = .ok (.getfield 223, 3) := by decide +kernel
theorem d_Ps_task_60 : decode c_Ps_task 60 = .ok (.ireturn, 1) := by decide +kernel
theorem d_Ps_task_61 : decode c_Ps_task 61 = .ok (.aload_n 3, 1) := by decide +kernel
theorem d_Ps_task_62 : decode c_Ps_task 62 = .ok (.getfield 224, 3) := by decide +kernel
theorem d_Ps_task_65 : decode c_Ps_task 65 = .ok (.ireturn, 1) := by decide +kernel
theorem d_Ps_task_66 : decode c_Ps_task 66 = .ok (.aload_n 3, 1) := by decide +kernel
theorem d_Ps_task_67 : decode c_Ps_task 67 = .ok (.getfield 227, 3) := by decide +kernel
theorem d_Ps_task_70 : decode c_Ps_task 70 = .ok (.ireturn, 1) := by decide +kernel
theorem d_Ps_task_71 : decode c_Ps_task 71 = .ok (.iconst (-1), 1) := by decide +kernel
theorem d_Ps_task_72 : decode c_Ps_task 72 = .ok (.ireturn, 1) := by decide +kernel
theorem d_Ps_source_0 : decode c_Ps_source 0 = .ok (.aload_n 0, 1) := by decide +kernel
theorem d_Ps_source_1 : decode c_Ps_source 1 = .ok (.getfield 10, 3) := by decide +kernel
theorem d_Ps_source_4 : decode c_Ps_source 4 = .ok (.invokevirtual 23, 3) := by decide +kernel
theorem d_Ps_source_7 : decode c_Ps_source 7 = .ok (.ifCond .eq 13, 3) := by decide +kernel
theorem d_Ps_source_10 : decode c_Ps_source 10 = .ok (.new 27, 3) := by decide +kernel
theorem d_Ps_source_13 : decode c_Ps_source 13 = .ok (.dup, 1) := by decide +kernel
theorem d_Ps_source_14 : decode c_Ps_source 14 = .ok (.ldc 29, 2) := by decide +kernel
theorem d_Ps_source_16 : decode c_Ps_source 16 = .ok (.invokespecial 31, 3) := by decide +kernel
theorem d_Ps_source_19 : decode c_Ps_source 19 = .ok (.athrow, 1) := by decide +kernel
theorem d_Ps_source_20 : decode c_Ps_source 20 = .ok (.aload_n 0, 1) := by decide +kernel
theorem d_Ps_source_21 : decode c_Ps_source 21 = .ok (.getfield 10, 3) := by decide +kernel
theorem d_Ps_source_24 : decode c_Ps_source 24 = .ok (.invokevirtual 34, 3) := by decide +kernel
theorem d_Ps_source_27 : decode c_Ps_source 27 = .ok (.getfield 38, 3) := by decide +kernel
theorem d_Ps_source_30 : decode c_Ps_source 30 = .ok (.ireturn, 1) := by decide +kernel
theorem d_Ps_then_0 : decode c_Ps_then 0 = .ok (.aload_n 0, 1) := by decide +kernel
theorem d_Ps_then_1 : decode c_Ps_then 1 = .ok (.getfield 10, 3) := by decide +kernel
theorem d_Ps_then_4 : decode c_Ps_then 4 = .ok (.iload_n 1, 1) := by decide +kernel
theorem d_Ps_then_5 : decode c_Ps_then 5 = .ok (.invokevirtual 44, 3) := by decide +kernel
theorem d_Ps_then_8 : decode c_Ps_then 8 = .ok (.ifCond .eq 19, 3) := by decide +kernel
theorem d_Ps_then_11 : decode c_Ps_then 11 = .ok (.iload_n 2, 1) := by decide +kernel
theorem d_Ps_then_12 : decode c_Ps_then 12 = .ok (.ifCond .lt 15, 3) := by decide +kernel
theorem d_Ps_then_15 : decode c_Ps_then 15 = .ok (.iload_n 2, 1) := by decide +kernel
theorem d_Ps_then_16 : decode c_Ps_then 16 = .ok (.iconst 4, 1) := by decide +kernel
theorem d_Ps_then_17 : decode c_Ps_then 17 = .ok (.if_icmp .gt 10, 3) := by decide +kernel
theorem d_Ps_then_20 : decode c_Ps_then 20 = .ok (.iload_n 3, 1) := by decide +kernel
theorem d_Ps_then_21 : decode c_Ps_then 21 = .ok (.invokestatic 48, 3) := by decide +kernel
theorem d_Ps_then_24 : decode c_Ps_then 24 = .ok (.ifCond .ne 13, 3) := by decide +kernel
theorem d_Ps_then_27 : decode c_Ps_then 27 = .ok (.new 51, 3) := by decide +kernel
theorem d_Ps_then_30 : decode c_Ps_then 30 = .ok (.dup, 1) := by decide +kernel
theorem d_Ps_then_31 : decode c_Ps_then 31 = .ok (.ldc 53, 2) := by decide +kernel
theorem d_Ps_then_33 : decode c_Ps_then 33 = .ok (.invokespecial 55, 3) := by decide +kernel
theorem d_Ps_then_36 : decode c_Ps_then 36 = .ok (.athrow, 1) := by decide +kernel
theorem d_Ps_then_37 : decode c_Ps_then 37 = .ok (.aload_n 0, 1) := by decide +kernel
theorem d_Ps_then_38 : decode c_Ps_then 38 = .ok (.getfield 10, 3) := by decide +kernel
theorem d_Ps_then_41 : decode c_Ps_then 41 = .ok (.invokevirtual 23, 3) := by decide +kernel
theorem d_Ps_then_44 : decode c_Ps_then 44 = .ok (.ifCond .eq 13, 3) := by decide +kernel
theorem d_Ps_then_47 : decode c_Ps_then 47 = .ok (.new 27, 3) := by decide +kernel
theorem d_Ps_then_50 : decode c_Ps_then 50 = .ok (.dup, 1) := by decide +kernel
theorem d_Ps_then_51 : decode c_Ps_then 51 = .ok (.ldc 29, 2) := by decide +kernel
theorem d_Ps_then_53 : decode c_Ps_then 53 = .ok (.invokespecial 31, 3) := by decide +kernel
theorem d_Ps_then_56 : decode c_Ps_then 56 = .ok (.athrow, 1) := by decide +kernel
theorem d_Ps_then_57 : decode c_Ps_then 57 = .ok (.aload_n 0, 1) := by decide +kernel
theorem d_Ps_then_58 : decode c_Ps_then 58 = .ok (.getfield 10, 3) := by decide +kernel
theorem d_Ps_then_61 : decode c_Ps_then 61 = .ok (.aload_n 0, 1) := by decide +kernel
theorem d_Ps_then_62 : decode c_Ps_then 62 = .ok (.getfield 10, 3) := by decide +kernel
theorem d_Ps_then_65 : decode c_Ps_then 65 = .ok (.iload_n 1, 1) := by decide +kernel
theorem d_Ps_then_66 : decode c_Ps_then 66 = .ok (.invokevirtual 56, 3) := by decide +kernel
theorem d_Ps_then_69 : decode c_Ps_then 69 = .ok (.iload_n 2, 1) := by decide +kernel
theorem d_Ps_then_70 : decode c_Ps_then 70 = .ok (.iload_n 3, 1) := by decide +kernel
theorem d_Ps_then_71 : decode c_Ps_then 71 = .ok (.iload 4, 2) := by decide +kernel
theorem d_Ps_then_73 : decode c_Ps_then 73 = .ok (.iload 5, 2) := by decide +kernel
theorem d_Ps_then_75 : decode c_Ps_then 75 = .ok (.invokevirtual 60, 3) := by decide +kernel
theorem d_Ps_then_78 : decode c_Ps_then 78 = .ok (.astore 6, 2) := by decide +kernel
theorem d_Ps_then_80 : decode c_Ps_then 80 = .ok (.aload_n 0, 1) := by decide +kernel
theorem d_Ps_then_81 : decode c_Ps_then 81 = .ok (.getfield 10, 3) := by decide +kernel
theorem d_Ps_then_84 : decode c_Ps_then 84 = .ok (.invokevirtual 64, 3) := by decide +kernel
theorem d_Ps_then_87 : decode c_Ps_then 87 = .ok (.aload 6, 2) := by decide +kernel
theorem d_Ps_then_89 : decode c_Ps_then 89 = .ok (.getfield 38, 3) := by decide +kernel
theorem d_Ps_then_92 : decode c_Ps_then 92 = .ok (.ireturn, 1) := by decide +kernel
theorem d_Ps_both_0 : decode c_Ps_both 0 = .ok (.aload_n 0, 1) := by decide +kernel
theorem d_Ps_both_1 : decode c_Ps_both 1 = .ok (.getfield 10, 3) := by decide +kernel
theorem d_Ps_both_4 : decode c_Ps_both 4 = .ok (.iload_n 1, 1) := by decide +kernel
theorem d_Ps_both_5 : decode c_Ps_both 5 = .ok (.invokevirtual 44, 3) := by decide +kernel
theorem d_Ps_both_8 : decode c_Ps_both 8 = .ok (.ifCond .eq 33, 3) := by decide +kernel
theorem d_Ps_both_11 : decode c_Ps_both 11 = .ok (.aload_n 0, 1) := by decide +kernel
theorem d_Ps_both_12 : decode c_Ps_both 12 = .ok (.getfield 10, 3) := by decide +kernel
theorem d_Ps_both_15 : decode c_Ps_both 15 = .ok (.iload_n 2, 1) := by decide +kernel
theorem d_Ps_both_16 : decode c_Ps_both 16 = .ok (.invokevirtual 44, 3) := by decide +kernel
theorem d_Ps_both_19 : decode c_Ps_both 19 = .ok (.ifCond .eq 22, 3) := by decide +kernel
theorem d_Ps_both_22 : decode c_Ps_both 22 = .ok (.iload_n 3, 1) := by decide +kernel
theorem d_Ps_both_23 : decode c_Ps_both 23 = .ok (.iconst 5, 1) := by decide +kernel
theorem d_Ps_both_24 : decode c_Ps_both 24 = .ok (.if_icmp .lt 17, 3) := by decide +kernel
theorem d_Ps_both_27 : decode c_Ps_both 27 = .ok (.iload_n 3, 1) := by decide +kernel
theorem d_Ps_both_28 : decode c_Ps_both 28 = .ok (.bipush 6, 2) := by decide +kernel
theorem d_Ps_both_30 : decode c_Ps_both 30 = .ok (.if_icmp .gt 11, 3) := by decide +kernel
theorem d_Ps_both_33 : decode c_Ps_both 33 = .ok (.iload 4, 2) := by decide +kernel
theorem d_Ps_both_35 : decode c_Ps_both 35 = .ok (.invokestatic 48, 3) := by decide +kernel
theorem d_Ps_both_38 : decode c_Ps_both 38 = .ok (.ifCond .ne 13, 3) := by decide +kernel
theorem d_Ps_both_41 : decode c_Ps_both 41 = .ok (.new 51, 3) := by decide +kernel
theorem d_Ps_both_44 : decode c_Ps_both 44 = .ok (.dup, 1) := by decide +kernel
theorem d_Ps_both_45 : decode c_Ps_both 45 = .ok (.ldc 53, 2) := by decide +kernel
theorem d_Ps_both_47 : decode c_Ps_both 47 = .ok (.invokespecial 55, 3) := by decide +kernel
theorem d_Ps_both_50 : decode c_Ps_both 50 = .ok (.athrow, 1) := by decide +kernel
theorem d_Ps_both_51 : decode c_Ps_both 51 = .ok (.aload_n 0, 1) := by decide +kernel
theorem d_Ps_both_52 : decode c_Ps_both 52 = .ok (.getfield 10, 3) := by decide +kernel
theorem d_Ps_both_55 : decode c_Ps_both 55 = .ok (.invokevirtual 23, 3) := by decide +kernel
theorem d_Ps_both_58 : decode c_Ps_both 58 = .ok (.ifCond .eq 13, 3) := by decide +kernel
theorem d_Ps_both_61 : decode c_Ps_both 61 = .ok (.new 27, 3) := by decide +kernel
theorem d_Ps_both_64 : decode c_Ps_both 64 = .ok (.dup, 1) := by decide +kernel
theorem d_Ps_both_65 : decode c_Ps_both 65 = .ok (.ldc 29, 2) := by decide +kernel
theorem d_Ps_both_67 : decode c_Ps_both 67 = .ok (.invokespecial 31, 3) := by decide +kernel
theorem d_Ps_both_70 : decode c_Ps_both 70 = .ok (.athrow, 1) := by decide +kernel
theorem d_Ps_both_71 : decode c_Ps_both 71 = .ok (.aload_n 0, 1) := by decide +kernel
theorem d_Ps_both_72 : decode c_Ps_both 72 = .ok (.getfield 10, 3) := by decide +kernel
theorem d_Ps_both_75 : decode c_Ps_both 75 = .ok (.aload_n 0, 1) := by decide +kernel
theorem d_Ps_both_76 : decode c_Ps_both 76 = .ok (.getfield 10, 3) := by decide +kernel
theorem d_Ps_both_79 : decode c_Ps_both 79 = .ok (.iload_n 1, 1) := by decide +kernel
theorem d_Ps_both_80 : decode c_Ps_both 80 = .ok (.iload_n 2, 1) := by decide +kernel
theorem d_Ps_both_81 : decode c_Ps_both 81 = .ok (.invokevirtual 67, 3) := by decide +kernel
theorem d_Ps_both_84 : decode c_Ps_both 84 = .ok (.iload_n 3, 1) := by decide +kernel
theorem d_Ps_both_85 : decode c_Ps_both 85 = .ok (.iload 4, 2) := by decide +kernel
theorem d_Ps_both_87 : decode c_Ps_both 87 = .ok (.iload 5, 2) := by decide +kernel
theorem d_Ps_both_89 : decode c_Ps_both 89 = .ok (.iload 6, 2) := by decide +kernel
theorem d_Ps_both_91 : decode c_Ps_both 91 = .ok (.invokevirtual 60, 3) := by decide +kernel
theorem d_Ps_both_94 : decode c_Ps_both 94 = .ok (.astore 7, 2) := by decide +kernel
theorem d_Ps_both_96 : decode c_Ps_both 96 = .ok (.aload_n 0, 1) := by decide +kernel
theorem d_Ps_both_97 : decode c_Ps_both 97 = .ok (.getfield 10, 3) := by decide +kernel
theorem d_Ps_both_100 : decode c_Ps_both 100 = .ok (.invokevirtual 64, 3) := by decide +kernel
theorem d_Ps_both_103 : decode c_Ps_both 103 = .ok (.aload 7, 2) := by decide +kernel
theorem d_Ps_both_105 : decode c_Ps_both 105 = .ok (.getfield 38, 3) := by decide +kernel
theorem d_Ps_both_108 : decode c_Ps_both 108 = .ok (.ireturn, 1) := by decide +kernel
theorem d_Ps_several_0 : decode c_Ps_several 0 = .ok (.aload_n 0, 1) := by decide +kernel
theorem d_Ps_several_1 : decode c_Ps_several 1 = .ok (.getfield 10, 3) := by decide +kernel
theorem d_Ps_several_4 : decode c_Ps_several 4 = .ok (.lload_n 1, 1) := by decide +kernel
theorem d_Ps_several_5 : decode c_Ps_several 5 = .ok (.invokevirtual 70, 3) := by decide +kernel
theorem d_Ps_several_8 : decode c_Ps_several 8 = .ok (.ifCond .eq 15, 3) := by decide +kernel
theorem d_Ps_several_11 : decode c_Ps_several 11 = .ok (.iload_n 3, 1) := by decide +kernel
theorem d_Ps_several_12 : decode c_Ps_several 12 = .ok (.bipush 7, 2) := by decide +kernel
theorem d_Ps_several_14 : decode c_Ps_several 14 = .ok (.if_icmp .lt 9, 3) := by decide +kernel
theorem d_Ps_several_17 : decode c_Ps_several 17 = .ok (.iload_n 3, 1) := by decide +kernel
theorem d_Ps_several_18 : decode c_Ps_several 18 = .ok (.bipush 8, 2) := by decide +kernel
theorem d_Ps_several_20 : decode c_Ps_several 20 = .ok (.if_icmp .le 13, 3) := by decide +kernel
theorem d_Ps_several_23 : decode c_Ps_several 23 = .ok (.new 51, 3) := by decide +kernel
theorem d_Ps_several_26 : decode c_Ps_several 26 = .ok (.dup, 1) := by decide +kernel
theorem d_Ps_several_27 : decode c_Ps_several 27 = .ok (.ldc 74, 2) := by decide +kernel
theorem d_Ps_several_29 : decode c_Ps_several 29 = .ok (.invokespecial 55, 3) := by decide +kernel
theorem d_Ps_several_32 : decode c_Ps_several 32 = .ok (.athrow, 1) := by decide +kernel
theorem d_Ps_several_33 : decode c_Ps_several 33 = .ok (.aload_n 0, 1) := by decide +kernel
theorem d_Ps_several_34 : decode c_Ps_several 34 = .ok (.getfield 10, 3) := by decide +kernel
theorem d_Ps_several_37 : decode c_Ps_several 37 = .ok (.invokevirtual 23, 3) := by decide +kernel
theorem d_Ps_several_40 : decode c_Ps_several 40 = .ok (.ifCond .eq 13, 3) := by decide +kernel
theorem d_Ps_several_43 : decode c_Ps_several 43 = .ok (.new 27, 3) := by decide +kernel
theorem d_Ps_several_46 : decode c_Ps_several 46 = .ok (.dup, 1) := by decide +kernel
theorem d_Ps_several_47 : decode c_Ps_several 47 = .ok (.ldc 29, 2) := by decide +kernel
theorem d_Ps_several_49 : decode c_Ps_several 49 = .ok (.invokespecial 31, 3) := by decide +kernel
theorem d_Ps_several_52 : decode c_Ps_several 52 = .ok (.athrow, 1) := by decide +kernel
theorem d_Ps_several_53 : decode c_Ps_several 53 = .ok (.aload_n 0, 1) := by decide +kernel
theorem d_Ps_several_54 : decode c_Ps_several 54 = .ok (.getfield 10, 3) := by decide +kernel
theorem d_Ps_several_57 : decode c_Ps_several 57 = .ok (.aload_n 0, 1) := by decide +kernel
theorem d_Ps_several_58 : decode c_Ps_several 58 = .ok (.getfield 10, 3) := by decide +kernel
theorem d_Ps_several_61 : decode c_Ps_several 61 = .ok (.lload_n 1, 1) := by decide +kernel
theorem d_Ps_several_62 : decode c_Ps_several 62 = .ok (.invokevirtual 76, 3) := by decide +kernel
theorem d_Ps_several_65 : decode c_Ps_several 65 = .ok (.iload_n 3, 1) := by decide +kernel
theorem d_Ps_several_66 : decode c_Ps_several 66 = .ok (.iconst (-1), 1) := by decide +kernel
theorem d_Ps_several_67 : decode c_Ps_several 67 = .ok (.iconst 0, 1) := by decide +kernel
theorem d_Ps_several_68 : decode c_Ps_several 68 = .ok (.iconst 0, 1) := by decide +kernel
theorem d_Ps_several_69 : decode c_Ps_several 69 = .ok (.invokevirtual 60, 3) := by decide +kernel
theorem d_Ps_several_72 : decode c_Ps_several 72 = .ok (.astore 4, 2) := by decide +kernel
theorem d_Ps_several_74 : decode c_Ps_several 74 = .ok (.aload_n 0, 1) := by decide +kernel
theorem d_Ps_several_75 : decode c_Ps_several 75 = .ok (.getfield 10, 3) := by decide +kernel
theorem d_Ps_several_78 : decode c_Ps_several 78 = .ok (.invokevirtual 64, 3) := by decide +kernel
theorem d_Ps_several_81 : decode c_Ps_several 81 = .ok (.aload 4, 2) := by decide +kernel
theorem d_Ps_several_83 : decode c_Ps_several 83 = .ok (.getfield 38, 3) := by decide +kernel
theorem d_Ps_several_86 : decode c_Ps_several 86 = .ok (.ireturn, 1) := by decide +kernel
theorem d_Ps_join_0 : decode c_Ps_join 0 = .ok (.aload_n 0, 1) := by decide +kernel
theorem d_Ps_join_1 : decode c_Ps_join 1 = .ok (.getfield 10, 3) := by decide +kernel
theorem d_Ps_join_4 : decode c_Ps_join 4 = .ok (.iload_n 1, 1) := by decide +kernel
theorem d_Ps_join_5 : decode c_Ps_join 5 = .ok (.invokevirtual 90, 3) := by decide +kernel
theorem d_Ps_join_8 : decode c_Ps_join 8 = .ok (.astore_n 2, 1) := by decide +kernel
theorem d_Ps_join_9 : decode c_Ps_join 9 = .ok (.aload_n 2, 1) := by decide +kernel
theorem d_Ps_join_10 : decode c_Ps_join 10 = .ok (.ifnonnull 13, 3) := by decide +kernel
theorem d_Ps_join_13 : decode c_Ps_join 13 = .ok (.new 51, 3) := by decide +kernel
theorem d_Ps_join_16 : decode c_Ps_join 16 = .ok (.dup, 1) := by decide +kernel
theorem d_Ps_join_17 : decode c_Ps_join 17 = .ok (.ldc 94, 2) := by decide +kernel
theorem d_Ps_join_19 : decode c_Ps_join 19 = .ok (.invokespecial 55, 3) := by decide +kernel
theorem d_Ps_join_22 : decode c_Ps_join 22 = .ok (.athrow, 1) := by decide +kernel
theorem d_Ps_join_23 : decode c_Ps_join 23 = .ok (.aload_n 2, 1) := by decide +kernel
theorem d_Ps_join_24 : decode c_Ps_join 24 = .ok (.getfield 96, 3) := by decide +kernel
theorem d_Ps_join_27 : decode c_Ps_join 27 = .ok (.ifCond .ne 13, 3) := by decide +kernel
theorem d_Ps_join_30 : decode c_Ps_join 30 = .ok (.new 99, 3) := by decide +kernel
theorem d_Ps_join_33 : decode c_Ps_join 33 = .ok (.dup, 1) := by decide +kernel
theorem d_Ps_join_34 : decode c_Ps_join 34 = .ok (.ldc 101, 2) := by decide +kernel
theorem d_Ps_join_36 : decode c_Ps_join 36 = .ok (.invokespecial 103, 3) := by decide +kernel
theorem d_Ps_join_39 : decode c_Ps_join 39 = .ok (.athrow, 1) := by decide +kernel
theorem d_Ps_join_40 : decode c_Ps_join 40 = .ok (.aload_n 2, 1) := by decide +kernel
theorem d_Ps_join_41 : decode c_Ps_join 41 = .ok (.getfield 96, 3) := by decide +kernel
theorem d_Ps_join_44 : decode c_Ps_join 44 = .ok (.iconst 1, 1) := by decide +kernel
theorem d_Ps_join_45 : decode c_Ps_join 45 = .ok (.if_icmp .eq 13, 3) := by decide +kernel
theorem d_Ps_join_48 : decode c_Ps_join 48 = .ok (.new 27, 3) := by decide +kernel
theorem d_Ps_join_51 : decode c_Ps_join 51 = .ok (.dup, 1) := by decide +kernel
theorem d_Ps_join_52 : decode c_Ps_join 52 = .ok (.ldc 104, 2) := by decide +kernel
theorem d_Ps_join_54 : decode c_Ps_join 54 = .ok (.invokespecial 31, 3) := by decide +kernel
theorem d_Ps_join_57 : decode c_Ps_join 57 = .ok (.athrow, 1) := by decide +kernel
theorem d_Ps_join_58 : decode c_Ps_join 58 = .ok (.aload_n 2, 1) := by decide +kernel
theorem d_Ps_join_59 : decode c_Ps_join 59 = .ok (.getfield 106, 3) := by decide +kernel
theorem d_Ps_join_62 : decode c_Ps_join 62 = .ok (.ireturn, 1) := by decide +kernel
theorem d_Ps_open_0 : decode c_Ps_open 0 = .ok (.iload_n 1, 1) := by decide +kernel
theorem d_Ps_open_1 : decode c_Ps_open 1 = .ok (.iconst (-1), 1) := by decide +kernel
theorem d_Ps_open_2 : decode c_Ps_open 2 = .ok (.if_icmp .eq 14, 3) := by decide +kernel
theorem d_Ps_open_5 : decode c_Ps_open 5 = .ok (.aload_n 0, 1) := by decide +kernel
theorem d_Ps_open_6 : decode c_Ps_open 6 = .ok (.getfield 19, 3) := by decide +kernel
theorem d_Ps_open_9 : decode c_Ps_open 9 = .ok (.iload_n 1, 1) := by decide +kernel
theorem d_Ps_open_10 : decode c_Ps_open 10 = .ok (.invokevirtual 132, 3) := by decide +kernel
theorem d_Ps_open_13 : decode c_Ps_open 13 = .ok (.ifnull 7, 3) := by decide +kernel
theorem d_Ps_open_16 : decode c_Ps_open 16 = .ok (.iconst 1, 1) := by decide +kernel
theorem d_Ps_open_17 : decode c_Ps_open 17 = .ok (.goto 4, 3) := by decide +kernel
theorem d_Ps_open_20 : decode c_Ps_open 20 = .ok (.iconst 0, 1) := by decide +kernel
theorem d_Ps_open_21 : decode c_Ps_open 21 = .ok (.istore 4, 2) := by decide +kernel
theorem d_Ps_open_23 : decode c_Ps_open 23 = .ok (.iload 4, 2) := by decide +kernel
theorem d_Ps_open_25 : decode c_Ps_open 25 = .ok (.ifCond .eq 12, 3) := by decide +kernel
theorem d_Ps_open_28 : decode c_Ps_open 28 = .ok (.iload_n 2, 1) := by decide +kernel
theorem d_Ps_open_29 : decode c_Ps_open 29 = .ok (.ifCond .lt 8, 3) := by decide +kernel
theorem d_Ps_open_32 : decode c_Ps_open 32 = .ok (.iload_n 2, 1) := by decide +kernel
theorem d_Ps_open_33 : decode c_Ps_open 33 = .ok (.iconst 2, 1) := by decide +kernel
theorem d_Ps_open_34 : decode c_Ps_open 34 = .ok (.if_icmp .le 13, 3) := by decide +kernel
theorem d_Ps_open_37 : decode c_Ps_open 37 = .ok (.new 51, 3) := by decide +kernel
theorem d_Ps_open_40 : decode c_Ps_open 40 = .ok (.dup, 1) := by decide +kernel
theorem d_Ps_open_41 : decode c_Ps_open 41 = .ok (.ldc 138, 2) := by decide +kernel
theorem d_Ps_open_43 : decode c_Ps_open 43 = .ok (.invokespecial 55, 3) := by decide +kernel
theorem d_Ps_open_46 : decode c_Ps_open 46 = .ok (.athrow, 1) := by decide +kernel
theorem d_Ps_open_47 : decode c_Ps_open 47 = .ok (.aload_n 0, 1) := by decide +kernel
theorem d_Ps_open_48 : decode c_Ps_open 48 = .ok (.getfield 19, 3) := by decide +kernel
theorem d_Ps_open_51 : decode c_Ps_open 51 = .ok (.invokevirtual 140, 3) := by decide +kernel
theorem d_Ps_open_54 : decode c_Ps_open 54 = .ok (.ifCond .ne 13, 3) := by decide +kernel
theorem d_Ps_open_57 : decode c_Ps_open 57 = .ok (.aload_n 0, 1) := by decide +kernel
theorem d_Ps_open_58 : decode c_Ps_open 58 = .ok (.getfield 10, 3) := by decide +kernel
theorem d_Ps_open_61 : decode c_Ps_open 61 = .ok (.invokevirtual 23, 3) := by decide +kernel
theorem d_Ps_open_64 : decode c_Ps_open 64 = .ok (.ifCond .eq 13, 3) := by decide +kernel
theorem d_Ps_open_67 : decode c_Ps_open 67 = .ok (.new 27, 3) := by decide +kernel
theorem d_Ps_open_70 : decode c_Ps_open 70 = .ok (.dup, 1) := by decide +kernel
theorem d_Ps_open_71 : decode c_Ps_open 71 = .ok (.ldc 143, 2) := by decide +kernel
theorem d_Ps_open_73 : decode c_Ps_open 73 = .ok (.invokespecial 31, 3) := by decide +kernel
theorem d_Ps_open_76 : decode c_Ps_open 76 = .ok (.athrow, 1) := by decide +kernel
theorem d_Ps_open_77 : decode c_Ps_open 77 = .ok (.aload_n 0, 1) := by decide +kernel
theorem d_Ps_open_78 : decode c_Ps_open 78 = .ok (.getfield 19, 3) := by decide +kernel
theorem d_Ps_open_81 : decode c_Ps_open 81 = .ok (.aload_n 0, 1) := by decide +kernel
theorem d_Ps_open_82 : decode c_Ps_open 82 = .ok (.getfield 19, 3) := by decide +kernel
theorem d_Ps_open_85 : decode c_Ps_open 85 = .ok (.iload_n 1, 1) := by decide +kernel
theorem d_Ps_open_86 : decode c_Ps_open 86 = .ok (.invokevirtual 145, 3) := by decide +kernel
theorem d_Ps_open_89 : decode c_Ps_open 89 = .ok (.iload_n 2, 1) := by decide +kernel
theorem d_Ps_open_90 : decode c_Ps_open 90 = .ok (.iload_n 3, 1) := by decide +kernel
theorem d_Ps_open_91 : decode c_Ps_open 91 = .ok (.aload_n 0, 1) := by decide +kernel
theorem d_Ps_open_92 : decode c_Ps_open 92 = .ok (.getfield 10, 3) := by decide +kernel
theorem d_Ps_open_95 : decode c_Ps_open 95 = .ok (.invokevirtual 34, 3) := by decide +kernel
theorem d_Ps_open_98 : decode c_Ps_open 98 = .ok (.invokevirtual 147, 3) := by decide +kernel
theorem d_Ps_open_101 : decode c_Ps_open 101 = .ok (.ireturn, 1) := by decide +kernel
theorem d_Ps_fork_0 : decode c_Ps_fork 0 = .ok (.aload_n 0, 1) := by decide +kernel
theorem d_Ps_fork_1 : decode c_Ps_fork 1 = .ok (.getfield 19, 3) := by decide +kernel
theorem d_Ps_fork_4 : decode c_Ps_fork 4 = .ok (.iload_n 1, 1) := by decide +kernel
theorem d_Ps_fork_5 : decode c_Ps_fork 5 = .ok (.invokevirtual 132, 3) := by decide +kernel
theorem d_Ps_fork_8 : decode c_Ps_fork 8 = .ok (.astore 5, 2) := by decide +kernel
theorem d_Ps_fork_10 : decode c_Ps_fork 10 = .ok (.aload 5, 2) := by decide +kernel
theorem d_Ps_fork_12 : decode c_Ps_fork 12 = .ok (.ifnull 17, 3) := by decide +kernel
theorem d_Ps_fork_15 : decode c_Ps_fork 15 = .ok (.iload_n 2, 1) := by decide +kernel
theorem d_Ps_fork_16 : decode c_Ps_fork 16 = .ok (.invokestatic 158, 3) := by decide +kernel
theorem d_Ps_fork_19 : decode c_Ps_fork 19 = .ok (.ifCond .eq 10, 3) := by decide +kernel
theorem d_Ps_fork_22 : decode c_Ps_fork 22 = .ok (.iload_n 3, 1) := by decide +kernel
theorem d_Ps_fork_23 : decode c_Ps_fork 23 = .ok (.invokestatic 48, 3) := by decide +kernel
theorem d_Ps_fork_26 : decode c_Ps_fork 26 = .ok (.ifCond .ne 13, 3) := by decide +kernel
theorem d_Ps_fork_29 : decode c_Ps_fork 29 = .ok (.new 51, 3) := by decide +kernel
theorem d_Ps_fork_32 : decode c_Ps_fork 32 = .ok (.dup, 1) := by decide +kernel
theorem d_Ps_fork_33 : decode c_Ps_fork 33 = .ok (.ldc 163, 2) := by decide +kernel
theorem d_Ps_fork_35 : decode c_Ps_fork 35 = .ok (.invokespecial 55, 3) := by decide +kernel
theorem d_Ps_fork_38 : decode c_Ps_fork 38 = .ok (.athrow, 1) := by decide +kernel
theorem d_Ps_fork_39 : decode c_Ps_fork 39 = .ok (.aload_n 0, 1) := by decide +kernel
theorem d_Ps_fork_40 : decode c_Ps_fork 40 = .ok (.getfield 19, 3) := by decide +kernel
theorem d_Ps_fork_43 : decode c_Ps_fork 43 = .ok (.invokevirtual 165, 3) := by decide +kernel
theorem d_Ps_fork_46 : decode c_Ps_fork 46 = .ok (.ifCond .eq 13, 3) := by decide +kernel
theorem d_Ps_fork_49 : decode c_Ps_fork 49 = .ok (.new 27, 3) := by decide +kernel
theorem d_Ps_fork_52 : decode c_Ps_fork 52 = .ok (.dup, 1) := by decide +kernel
theorem d_Ps_fork_53 : decode c_Ps_fork 53 = .ok (.ldc 168, 2) := by decide +kernel
theorem d_Ps_fork_55 : decode c_Ps_fork 55 = .ok (.invokespecial 31, 3) := by decide +kernel
theorem d_Ps_fork_58 : decode c_Ps_fork 58 = .ok (.athrow, 1) := by decide +kernel
theorem d_Ps_fork_59 : decode c_Ps_fork 59 = .ok (.aload_n 0, 1) := by decide +kernel
theorem d_Ps_fork_60 : decode c_Ps_fork 60 = .ok (.getfield 19, 3) := by decide +kernel
theorem d_Ps_fork_63 : decode c_Ps_fork 63 = .ok (.aload 5, 2) := by decide +kernel
theorem d_Ps_fork_65 : decode c_Ps_fork 65 = .ok (.iload_n 2, 1) := by decide +kernel
theorem d_Ps_fork_66 : decode c_Ps_fork 66 = .ok (.iload_n 3, 1) := by decide +kernel
theorem d_Ps_fork_67 : decode c_Ps_fork 67 = .ok (.iload 4, 2) := by decide +kernel
theorem d_Ps_fork_69 : decode c_Ps_fork 69 = .ok (.invokevirtual 170, 3) := by decide +kernel
theorem d_Ps_fork_72 : decode c_Ps_fork 72 = .ok (.ireturn, 1) := by decide +kernel
theorem d_Ps_bound_0 : decode c_Ps_bound 0 = .ok (.aload_n 0, 1) := by decide +kernel
theorem d_Ps_bound_1 : decode c_Ps_bound 1 = .ok (.getfield 19, 3) := by decide +kernel
theorem d_Ps_bound_4 : decode c_Ps_bound 4 = .ok (.iload_n 1, 1) := by decide +kernel
theorem d_Ps_bound_5 : decode c_Ps_bound 5 = .ok (.invokevirtual 145, 3) := by decide +kernel
theorem d_Ps_bound_8 : decode c_Ps_bound 8 = .ok (.astore_n 3, 1) := by decide +kernel
theorem d_Ps_bound_9 : decode c_Ps_bound 9 = .ok (.aload_n 3, 1) := by decide +kernel
theorem d_Ps_bound_10 : decode c_Ps_bound 10 = .ok (.ifnull 10, 3) := by decide +kernel
theorem d_Ps_bound_13 : decode c_Ps_bound 13 = .ok (.iload_n 2, 1) := by decide +kernel
theorem d_Ps_bound_14 : decode c_Ps_bound 14 = .ok (.invokestatic 151, 3) := by decide +kernel
theorem d_Ps_bound_17 : decode c_Ps_bound 17 = .ok (.ifCond .ne 13, 3) := by decide +kernel
theorem d_Ps_bound_20 : decode c_Ps_bound 20 = .ok (.new 51, 3) := by decide +kernel
theorem d_Ps_bound_23 : decode c_Ps_bound 23 = .ok (.dup, 1) := by decide +kernel
theorem d_Ps_bound_24 : decode c_Ps_bound 24 = .ok (.ldc 208, 2) := by decide +kernel
theorem d_Ps_bound_26 : decode c_Ps_bound 26 = .ok (.invokespecial 55, 3) := by decide +kernel
theorem d_Ps_bound_29 : decode c_Ps_bound 29 = .ok (.athrow, 1) := by decide +kernel
theorem d_Ps_bound_30 : decode c_Ps_bound 30 = .ok (.aload_n 3, 1) := by decide +kernel
theorem d_Ps_bound_31 : decode c_Ps_bound 31 = .ok (.iload_n 2, 1) := by decide +kernel
theorem d_Ps_bound_32 : decode c_Ps_bound 32 = .ok (.invokevirtual 210, 3) := by decide +kernel
theorem d_Ps_bound_35 : decode c_Ps_bound 35 = .ok (.ireturn, 1) := by decide +kernel
