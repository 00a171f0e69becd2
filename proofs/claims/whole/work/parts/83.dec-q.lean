/-! decode rows of the law's helpers -/
theorem d_Law_source_0 : decode c_Law_source 0 = .ok (.aload_n 1, 1) := by decide +kernel
theorem d_Law_source_1 : decode c_Law_source 1 = .ok (.iconst 0, 1) := by decide +kernel
theorem d_Law_source_2 : decode c_Law_source 2 = .ok (.aload_n 0, 1) := by decide +kernel
theorem d_Law_source_3 : decode c_Law_source 3 = .ok (.invokevirtual 7, 3) := by decide +kernel
theorem d_Law_source_6 : decode c_Law_source 6 = .ok (.i2l, 1) := by decide +kernel
theorem d_Law_source_7 : decode c_Law_source 7 = .ok (.lastore, 1) := by decide +kernel
theorem d_Law_source_8 : decode c_Law_source 8 = .ok (.goto 6, 3) := by decide +kernel
theorem d_Law_source_11 : decode c_Law_source 11 = .ok (.astore_n 2, 1) := by decide +kernel
theorem d_Law_source_12 : decode c_Law_source 12 = .ok (.iconst 1, 1) := by decide +kernel
theorem d_Law_source_13 : decode c_Law_source 13 = .ok (.ireturn, 1) := by decide +kernel
theorem d_Law_source_14 : decode c_Law_source 14 = .ok (.iconst 0, 1) := by decide +kernel
theorem d_Law_source_15 : decode c_Law_source 15 = .ok (.ireturn, 1) := by decide +kernel
theorem d_Law_then_0 : decode c_Law_then 0 = .ok (.aload 6, 2) := by decide +kernel
theorem d_Law_then_2 : decode c_Law_then 2 = .ok (.iconst 0, 1) := by decide +kernel
theorem d_Law_then_3 : decode c_Law_then 3 = .ok (.aload_n 0, 1) := by decide +kernel
theorem d_Law_then_4 : decode c_Law_then 4 = .ok (.iload_n 1, 1) := by decide +kernel
theorem d_Law_then_5 : decode c_Law_then 5 = .ok (.iload_n 2, 1) := by decide +kernel
theorem d_Law_then_6 : decode c_Law_then 6 = .ok (.iload_n 3, 1) := by decide +kernel
theorem d_Law_then_7 : decode c_Law_then 7 = .ok (.iload 4, 2) := by decide +kernel
theorem d_Law_then_9 : decode c_Law_then 9 = .ok (.iload 5, 2) := by decide +kernel
theorem d_Law_then_11 : decode c_Law_then 11 = .ok (.invokevirtual 15, 3) := by decide +kernel
theorem d_Law_then_14 : decode c_Law_then 14 = .ok (.i2l, 1) := by decide +kernel
theorem d_Law_then_15 : decode c_Law_then 15 = .ok (.lastore, 1) := by decide +kernel
theorem d_Law_then_16 : decode c_Law_then 16 = .ok (.goto 11, 3) := by decide +kernel
theorem d_Law_then_19 : decode c_Law_then 19 = .ok (.astore 7, 2) := by decide +kernel
theorem d_Law_then_21 : decode c_Law_then 21 = .ok (.iconst 1, 1) := by decide +kernel
theorem d_Law_then_22 : decode c_Law_then 22 = .ok (.ireturn, 1) := by decide +kernel
theorem d_Law_then_23 : decode c_Law_then 23 = .ok (.astore 7, 2) := by decide +kernel
theorem d_Law_then_25 : decode c_Law_then 25 = .ok (.iconst 2, 1) := by decide +kernel
theorem d_Law_then_26 : decode c_Law_then 26 = .ok (.ireturn, 1) := by decide +kernel
theorem d_Law_then_27 : decode c_Law_then 27 = .ok (.iconst 0, 1) := by decide +kernel
theorem d_Law_then_28 : decode c_Law_then 28 = .ok (.ireturn, 1) := by decide +kernel
theorem d_Law_both_0 : decode c_Law_both 0 = .ok (.aload 7, 2) := by decide +kernel
theorem d_Law_both_2 : decode c_Law_both 2 = .ok (.iconst 0, 1) := by decide +kernel
theorem d_Law_both_3 : decode c_Law_both 3 = .ok (.aload_n 0, 1) := by decide +kernel
theorem d_Law_both_4 : decode c_Law_both 4 = .ok (.iload_n 1, 1) := by decide +kernel
theorem d_Law_both_5 : decode c_Law_both 5 = .ok (.iload_n 2, 1) := by decide +kernel
theorem d_Law_both_6 : decode c_Law_both 6 = .ok (.iload_n 3, 1) := by decide +kernel
theorem d_Law_both_7 : decode c_Law_both 7 = .ok (.iload 4, 2) := by decide +kernel
theorem d_Law_both_9 : decode c_Law_both 9 = .ok (.iload 5, 2) := by decide +kernel
theorem d_Law_both_11 : decode c_Law_both 11 = .ok (.iload 6, 2) := by decide +kernel
theorem d_Law_both_13 : decode c_Law_both 13 = .ok (.invokevirtual 21, 3) := by decide +kernel
theorem d_Law_both_16 : decode c_Law_both 16 = .ok (.i2l, 1) := by decide +kernel
theorem d_Law_both_17 : decode c_Law_both 17 = .ok (.lastore, 1) := by decide +kernel
theorem d_Law_both_18 : decode c_Law_both 18 = .ok (.goto 11, 3) := by decide +kernel
theorem d_Law_both_21 : decode c_Law_both 21 = .ok (.astore 8, 2) := by decide +kernel
theorem d_Law_both_23 : decode c_Law_both 23 = .ok (.iconst 1, 1) := by decide +kernel
theorem d_Law_both_24 : decode c_Law_both 24 = .ok (.ireturn, 1) := by decide +kernel
theorem d_Law_both_25 : decode c_Law_both 25 = .ok (.astore 8, 2) := by decide +kernel
theorem d_Law_both_27 : decode c_Law_both 27 = .ok (.iconst 2, 1) := by decide +kernel
theorem d_Law_both_28 : decode c_Law_both 28 = .ok (.ireturn, 1) := by decide +kernel
theorem d_Law_both_29 : decode c_Law_both 29 = .ok (.iconst 0, 1) := by decide +kernel
theorem d_Law_both_30 : decode c_Law_both 30 = .ok (.ireturn, 1) := by decide +kernel
theorem d_Law_several_0 : decode c_Law_several 0 = .ok (.aload 4, 2) := by decide +kernel
theorem d_Law_several_2 : decode c_Law_several 2 = .ok (.iconst 0, 1) := by decide +kernel
theorem d_Law_several_3 : decode c_Law_several 3 = .ok (.aload_n 0, 1) := by decide +kernel
theorem d_Law_several_4 : decode c_Law_several 4 = .ok (.lload_n 1, 1) := by decide +kernel
theorem d_Law_several_5 : decode c_Law_several 5 = .ok (.iload_n 3, 1) := by decide +kernel
theorem d_Law_several_6 : decode c_Law_several 6 = .ok (.invokevirtual 25, 3) := by decide +kernel
theorem d_Law_several_9 : decode c_Law_several 9 = .ok (.i2l, 1) := by decide +kernel
theorem d_Law_several_10 : decode c_Law_several 10 = .ok (.lastore, 1) := by decide +kernel
theorem d_Law_several_11 : decode c_Law_several 11 = .ok (.goto 11, 3) := by decide +kernel
theorem d_Law_several_14 : decode c_Law_several 14 = .ok (.astore 5, 2) := by decide +kernel
theorem d_Law_several_16 : decode c_Law_several 16 = .ok (.iconst 1, 1) := by decide +kernel
theorem d_Law_several_17 : decode c_Law_several 17 = .ok (.ireturn, 1) := by decide +kernel
theorem d_Law_several_18 : decode c_Law_several 18 = .ok (.astore 5, 2) := by decide +kernel
theorem d_Law_several_20 : decode c_Law_several 20 = .ok (.iconst 2, 1) := by decide +kernel
theorem d_Law_several_21 : decode c_Law_several 21 = .ok (.ireturn, 1) := by decide +kernel
theorem d_Law_several_22 : decode c_Law_several 22 = .ok (.iconst 0, 1) := by decide +kernel
theorem d_Law_several_23 : decode c_Law_several 23 = .ok (.ireturn, 1) := by decide +kernel
theorem d_Law_join_0 : decode c_Law_join 0 = .ok (.aload_n 2, 1) := by decide +kernel
theorem d_Law_join_1 : decode c_Law_join 1 = .ok (.iconst 0, 1) := by decide +kernel
theorem d_Law_join_2 : decode c_Law_join 2 = .ok (.aload_n 0, 1) := by decide +kernel
theorem d_Law_join_3 : decode c_Law_join 3 = .ok (.iload_n 1, 1) := by decide +kernel
theorem d_Law_join_4 : decode c_Law_join 4 = .ok (.invokevirtual 29, 3) := by decide +kernel
theorem d_Law_join_7 : decode c_Law_join 7 = .ok (.i2l, 1) := by decide +kernel
theorem d_Law_join_8 : decode c_Law_join 8 = .ok (.lastore, 1) := by decide +kernel
theorem d_Law_join_9 : decode c_Law_join 9 = .ok (.goto 12, 3) := by decide +kernel
theorem d_Law_join_12 : decode c_Law_join 12 = .ok (.astore_n 3, 1) := by decide +kernel
theorem d_Law_join_13 : decode c_Law_join 13 = .ok (.iconst 1, 1) := by decide +kernel
theorem d_Law_join_14 : decode c_Law_join 14 = .ok (.ireturn, 1) := by decide +kernel
theorem d_Law_join_15 : decode c_Law_join 15 = .ok (.astore_n 3, 1) := by decide +kernel
theorem d_Law_join_16 : decode c_Law_join 16 = .ok (.iconst 2, 1) := by decide +kernel
theorem d_Law_join_17 : decode c_Law_join 17 = .ok (.ireturn, 1) := by decide +kernel
theorem d_Law_join_18 : decode c_Law_join 18 = .ok (.astore_n 3, 1) := by decide +kernel
theorem d_Law_join_19 : decode c_Law_join 19 = .ok (.iconst 3, 1) := by decide +kernel
theorem d_Law_join_20 : decode c_Law_join 20 = .ok (.ireturn, 1) := by decide +kernel
theorem d_Law_join_21 : decode c_Law_join 21 = .ok (.iconst 0, 1) := by decide +kernel
theorem d_Law_join_22 : decode c_Law_join 22 = .ok (.ireturn, 1) := by decide +kernel
theorem d_Law_open_0 : decode c_Law_open 0 = .ok (.aload 4, 2) := by decide +kernel
theorem d_Law_open_2 : decode c_Law_open 2 = .ok (.iconst 0, 1) := by decide +kernel
theorem d_Law_open_3 : decode c_Law_open 3 = .ok (.aload_n 0, 1) := by decide +kernel
theorem d_Law_open_4 : decode c_Law_open 4 = .ok (.iload_n 1, 1) := by decide +kernel
theorem d_Law_open_5 : decode c_Law_open 5 = .ok (.iload_n 2, 1) := by decide +kernel
theorem d_Law_open_6 : decode c_Law_open 6 = .ok (.iload_n 3, 1) := by decide +kernel
theorem d_Law_open_7 : decode c_Law_open 7 = .ok (.invokevirtual 35, 3) := by decide +kernel
theorem d_Law_open_10 : decode c_Law_open 10 = .ok (.i2l, 1) := by decide +kernel
theorem d_Law_open_11 : decode c_Law_open 11 = .ok (.lastore, 1) := by decide +kernel
theorem d_Law_open_12 : decode c_Law_open 12 = .ok (.goto 11, 3) := by decide +kernel
theorem d_Law_open_15 : decode c_Law_open 15 = .ok (.astore 5, 2) := by decide +kernel
theorem d_Law_open_17 : decode c_Law_open 17 = .ok (.iconst 1, 1) := by decide +kernel
theorem d_Law_open_18 : decode c_Law_open 18 = .ok (.ireturn, 1) := by decide +kernel
theorem d_Law_open_19 : decode c_Law_open 19 = .ok (.astore 5, 2) := by decide +kernel
theorem d_Law_open_21 : decode c_Law_open 21 = .ok (.iconst 2, 1) := by decide +kernel
theorem d_Law_open_22 : decode c_Law_open 22 = .ok (.ireturn, 1) := by decide +kernel
theorem d_Law_open_23 : decode c_Law_open 23 = .ok (.iconst 0, 1) := by decide +kernel
theorem d_Law_open_24 : decode c_Law_open 24 = .ok (.ireturn, 1) := by decide +kernel
theorem d_Law_fork_0 : decode c_Law_fork 0 = .ok (.aload 5, 2) := by decide +kernel
theorem d_Law_fork_2 : decode c_Law_fork 2 = .ok (.iconst 0, 1) := by decide +kernel
theorem d_Law_fork_3 : decode c_Law_fork 3 = .ok (.aload_n 0, 1) := by decide +kernel
theorem d_Law_fork_4 : decode c_Law_fork 4 = .ok (.iload_n 1, 1) := by decide +kernel
theorem d_Law_fork_5 : decode c_Law_fork 5 = .ok (.iload_n 2, 1) := by decide +kernel
theorem d_Law_fork_6 : decode c_Law_fork 6 = .ok (.iload_n 3, 1) := by decide +kernel
theorem d_Law_fork_7 : decode c_Law_fork 7 = .ok (.iload 4, 2) := by decide +kernel
theorem d_Law_fork_9 : decode c_Law_fork 9 = .ok (.invokevirtual 39, 3) := by decide +kernel
theorem d_Law_fork_12 : decode c_Law_fork 12 = .ok (.i2l, 1) := by decide +kernel
theorem d_Law_fork_13 : decode c_Law_fork 13 = .ok (.lastore, 1) := by decide +kernel
theorem d_Law_fork_14 : decode c_Law_fork 14 = .ok (.goto 11, 3) := by decide +kernel
theorem d_Law_fork_17 : decode c_Law_fork 17 = .ok (.astore 6, 2) := by decide +kernel
theorem d_Law_fork_19 : decode c_Law_fork 19 = .ok (.iconst 1, 1) := by decide +kernel
theorem d_Law_fork_20 : decode c_Law_fork 20 = .ok (.ireturn, 1) := by decide +kernel
theorem d_Law_fork_21 : decode c_Law_fork 21 = .ok (.astore 6, 2) := by decide +kernel
theorem d_Law_fork_23 : decode c_Law_fork 23 = .ok (.iconst 2, 1) := by decide +kernel
theorem d_Law_fork_24 : decode c_Law_fork 24 = .ok (.ireturn, 1) := by decide +kernel
theorem d_Law_fork_25 : decode c_Law_fork 25 = .ok (.iconst 0, 1) := by decide +kernel
theorem d_Law_fork_26 : decode c_Law_fork 26 = .ok (.ireturn, 1) := by decide +kernel
theorem d_Law_bound_0 : decode c_Law_bound 0 = .ok (.aload_n 3, 1) := by decide +kernel
theorem d_Law_bound_1 : decode c_Law_bound 1 = .ok (.iconst 0, 1) := by decide +kernel
theorem d_Law_bound_2 : decode c_Law_bound 2 = .ok (.aload_n 0, 1) := by decide +kernel
theorem d_Law_bound_3 : decode c_Law_bound 3 = .ok (.iload_n 1, 1) := by decide +kernel
theorem d_Law_bound_4 : decode c_Law_bound 4 = .ok (.iload_n 2, 1) := by decide +kernel
theorem d_Law_bound_5 : decode c_Law_bound 5 = .ok (.invokevirtual 43, 3) := by decide +kernel
theorem d_Law_bound_8 : decode c_Law_bound 8 = .ok (.i2l, 1) := by decide +kernel
theorem d_Law_bound_9 : decode c_Law_bound 9 = .ok (.lastore, 1) := by decide +kernel
theorem d_Law_bound_10 : decode c_Law_bound 10 = .ok (.goto 7, 3) := by decide +kernel
theorem d_Law_bound_13 : decode c_Law_bound 13 = .ok (.astore 4, 2) := by decide +kernel
theorem d_Law_bound_15 : decode c_Law_bound 15 = .ok (.iconst 1, 1) := by decide +kernel
theorem d_Law_bound_16 : decode c_Law_bound 16 = .ok (.ireturn, 1) := by decide +kernel
theorem d_Law_bound_17 : decode c_Law_bound 17 = .ok (.iconst 0, 1) := by decide +kernel
theorem d_Law_bound_18 : decode c_Law_bound 18 = .ok (.ireturn, 1) := by decide +kernel
