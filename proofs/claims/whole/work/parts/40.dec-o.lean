/-! decode rows (by walk.py) -/
theorem d_Mod_join_0 : decode c_Mod_join 0 = .ok (.aload_n 0, 1) := by decide +kernel
theorem d_Mod_join_1 : decode c_Mod_join 1 = .ok (.aload_n 0, 1) := by decide +kernel
theorem d_Mod_join_2 : decode c_Mod_join 2 = .ok (.iload_n 1, 1) := by decide +kernel
theorem d_Mod_join_3 : decode c_Mod_join 3 = .ok (.invokevirtual 162, 3) := by decide +kernel
theorem d_Mod_join_6 : decode c_Mod_join 6 = .ok (.ifCond .ne 7, 3) := by decide +kernel
theorem d_Mod_join_9 : decode c_Mod_join 9 = .ok (.iconst 1, 1) := by decide +kernel
theorem d_Mod_join_10 : decode c_Mod_join 10 = .ok (.goto 4, 3) := by decide +kernel
theorem d_Mod_join_13 : decode c_Mod_join 13 = .ok (.iconst 0, 1) := by decide +kernel
theorem d_Mod_join_14 : decode c_Mod_join 14 = .ok (.putfield 111, 3) := by decide +kernel
theorem d_Mod_join_17 : decode c_Mod_join 17 = .ok (.aload_n 0, 1) := by decide +kernel
theorem d_Mod_join_18 : decode c_Mod_join 18 = .ok (.getfield 111, 3) := by decide +kernel
theorem d_Mod_join_21 : decode c_Mod_join 21 = .ok (.ifCond .le 5, 3) := by decide +kernel
theorem d_Mod_join_24 : decode c_Mod_join 24 = .ok (.iconst 0, 1) := by decide +kernel
theorem d_Mod_join_25 : decode c_Mod_join 25 = .ok (.ireturn, 1) := by decide +kernel
theorem d_Mod_join_26 : decode c_Mod_join 26 = .ok (.aload_n 0, 1) := by decide +kernel
theorem d_Mod_join_27 : decode c_Mod_join 27 = .ok (.aload_n 0, 1) := by decide +kernel
theorem d_Mod_join_28 : decode c_Mod_join 28 = .ok (.getfield 7, 3) := by decide +kernel
theorem d_Mod_join_31 : decode c_Mod_join 31 = .ok (.iload_n 1, 1) := by decide +kernel
theorem d_Mod_join_32 : decode c_Mod_join 32 = .ok (.iaload, 1) := by decide +kernel
theorem d_Mod_join_33 : decode c_Mod_join 33 = .ok (.ifCond .ne 7, 3) := by decide +kernel
theorem d_Mod_join_36 : decode c_Mod_join 36 = .ok (.iconst 2, 1) := by decide +kernel
theorem d_Mod_join_37 : decode c_Mod_join 37 = .ok (.goto 18, 3) := by decide +kernel
theorem d_Mod_join_40 : decode c_Mod_join 40 = .ok (.aload_n 0, 1) := by decide +kernel
theorem d_Mod_join_41 : decode c_Mod_join 41 = .ok (.getfield 7, 3) := by decide +kernel
theorem d_Mod_join_44 : decode c_Mod_join 44 = .ok (.iload_n 1, 1) := by decide +kernel
theorem d_Mod_join_45 : decode c_Mod_join 45 = .ok (.iaload, 1) := by decide +kernel
theorem d_Mod_join_46 : decode c_Mod_join 46 = .ok (.iconst 1, 1) := by decide +kernel
theorem d_Mod_join_47 : decode c_Mod_join 47 = .ok (.if_icmp .le 7, 3) := by decide +kernel
theorem d_Mod_join_50 : decode c_Mod_join 50 = .ok (.iconst 3, 1) := by decide +kernel
theorem d_Mod_join_51 : decode c_Mod_join 51 = .ok (.goto 4, 3) := by decide +kernel
theorem d_Mod_join_54 : decode c_Mod_join 54 = .ok (.iconst 0, 1) := by decide +kernel
theorem d_Mod_join_55 : decode c_Mod_join 55 = .ok (.putfield 111, 3) := by decide +kernel
theorem d_Mod_join_58 : decode c_Mod_join 58 = .ok (.aload_n 0, 1) := by decide +kernel
theorem d_Mod_join_59 : decode c_Mod_join 59 = .ok (.getfield 111, 3) := by decide +kernel
theorem d_Mod_join_62 : decode c_Mod_join 62 = .ok (.ifCond .le 7, 3) := by decide +kernel
theorem d_Mod_join_65 : decode c_Mod_join 65 = .ok (.iconst 0, 1) := by decide +kernel
theorem d_Mod_join_66 : decode c_Mod_join 66 = .ok (.goto 9, 3) := by decide +kernel
theorem d_Mod_join_69 : decode c_Mod_join 69 = .ok (.aload_n 0, 1) := by decide +kernel
theorem d_Mod_join_70 : decode c_Mod_join 70 = .ok (.getfield 13, 3) := by decide +kernel
theorem d_Mod_join_73 : decode c_Mod_join 73 = .ok (.iload_n 1, 1) := by decide +kernel
theorem d_Mod_join_74 : decode c_Mod_join 74 = .ok (.iaload, 1) := by decide +kernel
theorem d_Mod_join_75 : decode c_Mod_join 75 = .ok (.ireturn, 1) := by decide +kernel
theorem d_Mod_stage_0 : decode c_Mod_stage 0 = .ok (.aload_n 0, 1) := by decide +kernel
theorem d_Mod_stage_1 : decode c_Mod_stage 1 = .ok (.iconst 0, 1) := by decide +kernel
theorem d_Mod_stage_2 : decode c_Mod_stage 2 = .ok (.putfield 111, 3) := by decide +kernel
theorem d_Mod_stage_5 : decode c_Mod_stage 5 = .ok (.aload_n 0, 1) := by decide +kernel
theorem d_Mod_stage_6 : decode c_Mod_stage 6 = .ok (.iload_n 1, 1) := by decide +kernel
theorem d_Mod_stage_7 : decode c_Mod_stage 7 = .ok (.invokevirtual 162, 3) := by decide +kernel
theorem d_Mod_stage_10 : decode c_Mod_stage 10 = .ok (.ifCond .eq 12, 3) := by decide +kernel
theorem d_Mod_stage_13 : decode c_Mod_stage 13 = .ok (.iload_n 2, 1) := by decide +kernel
theorem d_Mod_stage_14 : decode c_Mod_stage 14 = .ok (.ifCond .lt 8, 3) := by decide +kernel
theorem d_Mod_stage_17 : decode c_Mod_stage 17 = .ok (.iload_n 2, 1) := by decide +kernel
theorem d_Mod_stage_18 : decode c_Mod_stage 18 = .ok (.iconst 3, 1) := by decide +kernel
theorem d_Mod_stage_19 : decode c_Mod_stage 19 = .ok (.if_icmp .le 5, 3) := by decide +kernel
theorem d_Mod_stage_22 : decode c_Mod_stage 22 = .ok (.iconst (-1), 1) := by decide +kernel
theorem d_Mod_stage_23 : decode c_Mod_stage 23 = .ok (.ireturn, 1) := by decide +kernel
theorem d_Mod_stage_24 : decode c_Mod_stage 24 = .ok (.iload_n 2, 1) := by decide +kernel
theorem d_Mod_stage_25 : decode c_Mod_stage 25 = .ok (.iconst 3, 1) := by decide +kernel
theorem d_Mod_stage_26 : decode c_Mod_stage 26 = .ok (.if_icmp .ne 43, 3) := by decide +kernel
theorem d_Mod_stage_29 : decode c_Mod_stage 29 = .ok (.iconst (-1), 1) := by decide +kernel
theorem d_Mod_stage_30 : decode c_Mod_stage 30 = .ok (.istore_n 3, 1) := by decide +kernel
theorem d_Mod_stage_31 : decode c_Mod_stage 31 = .ok (.iconst 0, 1) := by decide +kernel
theorem d_Mod_stage_32 : decode c_Mod_stage 32 = .ok (.istore 4, 2) := by decide +kernel
theorem d_Mod_stage_34 : decode c_Mod_stage 34 = .ok (.iload 4, 2) := by decide +kernel
theorem d_Mod_stage_36 : decode c_Mod_stage 36 = .ok (.aload_n 0, 1) := by decide +kernel
theorem d_Mod_stage_37 : decode c_Mod_stage 37 = .ok (.getfield 135, 3) := by decide +kernel
theorem d_Mod_stage_40 : decode c_Mod_stage 40 = .ok (.if_icmp .ge 27, 3) := by decide +kernel
theorem d_Mod_stage_43 : decode c_Mod_stage 43 = .ok (.aload_n 0, 1) := by decide +kernel
theorem d_Mod_stage_44 : decode c_Mod_stage 44 = .ok (.getfield 51, 3) := by decide +kernel
theorem d_Mod_stage_47 : decode c_Mod_stage 47 = .ok (.iload 4, 2) := by decide +kernel
theorem d_Mod_stage_49 : decode c_Mod_stage 49 = .ok (.iaload, 1) := by decide +kernel
theorem d_Mod_stage_50 : decode c_Mod_stage 50 = .ok (.iload_n 1, 1) := by decide +kernel
theorem d_Mod_stage_51 : decode c_Mod_stage 51 = .ok (.if_icmp .ne 8, 3) := by decide +kernel
theorem d_Mod_stage_54 : decode c_Mod_stage 54 = .ok (.iload 4, 2) := by decide +kernel
theorem d_Mod_stage_56 : decode c_Mod_stage 56 = .ok (.goto 4, 3) := by decide +kernel
theorem d_Mod_stage_59 : decode c_Mod_stage 59 = .ok (.iload_n 3, 1) := by decide +kernel
theorem d_Mod_stage_60 : decode c_Mod_stage 60 = .ok (.istore_n 3, 1) := by decide +kernel
theorem d_Mod_stage_61 : decode c_Mod_stage 61 = .ok (.iinc 4 1, 3) := by decide +kernel
theorem d_Mod_stage_64 : decode c_Mod_stage 64 = .ok (.goto (-30), 3) := by decide +kernel
theorem d_Mod_stage_67 : decode c_Mod_stage 67 = .ok (.iload_n 3, 1) := by decide +kernel
theorem d_Mod_stage_68 : decode c_Mod_stage 68 = .ok (.ireturn, 1) := by decide +kernel
theorem d_Mod_stage_69 : decode c_Mod_stage 69 = .ok (.iload_n 2, 1) := by decide +kernel
theorem d_Mod_stage_70 : decode c_Mod_stage 70 = .ok (.ifCond .ne 12, 3) := by decide +kernel
theorem d_Mod_stage_73 : decode c_Mod_stage 73 = .ok (.aload_n 0, 1) := by decide +kernel
theorem d_Mod_stage_74 : decode c_Mod_stage 74 = .ok (.getfield 7, 3) := by decide +kernel
theorem d_Mod_stage_77 : decode c_Mod_stage 77 = .ok (.iload_n 1, 1) := by decide +kernel
theorem d_Mod_stage_78 : decode c_Mod_stage 78 = .ok (.iaload, 1) := by decide +kernel
theorem d_Mod_stage_79 : decode c_Mod_stage 79 = .ok (.goto 23, 3) := by decide +kernel
theorem d_Mod_stage_82 : decode c_Mod_stage 82 = .ok (.iload_n 2, 1) := by decide +kernel
theorem d_Mod_stage_83 : decode c_Mod_stage 83 = .ok (.iconst 1, 1) := by decide +kernel
theorem d_Mod_stage_84 : decode c_Mod_stage 84 = .ok (.if_icmp .ne 12, 3) := by decide +kernel
theorem d_Mod_stage_87 : decode c_Mod_stage 87 = .ok (.aload_n 0, 1) := by decide +kernel
theorem d_Mod_stage_88 : decode c_Mod_stage 88 = .ok (.getfield 13, 3) := by decide +kernel
theorem d_Mod_stage_91 : decode c_Mod_stage 91 = .ok (.iload_n 1, 1) := by decide +kernel
theorem d_Mod_stage_92 : decode c_Mod_stage 92 = .ok (.iaload, 1) := by decide +kernel
theorem d_Mod_stage_93 : decode c_Mod_stage 93 = .ok (.goto 9, 3) := by decide +kernel
theorem d_Mod_stage_96 : decode c_Mod_stage 96 = .ok (.aload_n 0, 1) := by decide +kernel
theorem d_Mod_stage_97 : decode c_Mod_stage 97 = .ok (.getfield 19, 3) := by decide +kernel
theorem d_Mod_stage_100 : decode c_Mod_stage 100 = .ok (.iload_n 1, 1) := by decide +kernel
theorem d_Mod_stage_101 : decode c_Mod_stage 101 = .ok (.iaload, 1) := by decide +kernel
theorem d_Mod_stage_102 : decode c_Mod_stage 102 = .ok (.ireturn, 1) := by decide +kernel
theorem d_Mod_count_0 : decode c_Mod_count 0 = .ok (.aload_n 0, 1) := by decide +kernel
theorem d_Mod_count_1 : decode c_Mod_count 1 = .ok (.iconst 0, 1) := by decide +kernel
theorem d_Mod_count_2 : decode c_Mod_count 2 = .ok (.putfield 111, 3) := by decide +kernel
theorem d_Mod_count_5 : decode c_Mod_count 5 = .ok (.iload_n 1, 1) := by decide +kernel
theorem d_Mod_count_6 : decode c_Mod_count 6 = .ok (.ifCond .ne 10, 3) := by decide +kernel
theorem d_Mod_count_9 : decode c_Mod_count 9 = .ok (.aload_n 0, 1) := by decide +kernel
theorem d_Mod_count_10 : decode c_Mod_count 10 = .ok (.getfield 121, 3) := by decide +kernel
theorem d_Mod_count_13 : decode c_Mod_count 13 = .ok (.goto 52, 3) := by decide +kernel
theorem d_Mod_count_16 : decode c_Mod_count 16 = .ok (.iload_n 1, 1) := by decide +kernel
theorem d_Mod_count_17 : decode c_Mod_count 17 = .ok (.iconst 1, 1) := by decide +kernel
theorem d_Mod_count_18 : decode c_Mod_count 18 = .ok (.if_icmp .ne 10, 3) := by decide +kernel
theorem d_Mod_count_21 : decode c_Mod_count 21 = .ok (.aload_n 0, 1) := by decide +kernel
theorem d_Mod_count_22 : decode c_Mod_count 22 = .ok (.getfield 135, 3) := by decide +kernel
theorem d_Mod_count_25 : decode c_Mod_count 25 = .ok (.goto 40, 3) := by decide +kernel
theorem d_Mod_count_28 : decode c_Mod_count 28 = .ok (.iload_n 1, 1) := by decide +kernel
theorem d_Mod_count_29 : decode c_Mod_count 29 = .ok (.iconst 2, 1) := by decide +kernel
theorem d_Mod_count_30 : decode c_Mod_count 30 = .ok (.if_icmp .ne 10, 3) := by decide +kernel
theorem d_Mod_count_33 : decode c_Mod_count 33 = .ok (.aload_n 0, 1) := by decide +kernel
theorem d_Mod_count_34 : decode c_Mod_count 34 = .ok (.getfield 192, 3) := by decide +kernel
theorem d_Mod_count_37 : decode c_Mod_count 37 = .ok (.goto 28, 3) := by decide +kernel
theorem d_Mod_count_40 : decode c_Mod_count 40 = .ok (.iload_n 1, 1) := by decide +kernel
theorem d_Mod_count_41 : decode c_Mod_count 41 = .ok (.iconst 3, 1) := by decide +kernel
theorem d_Mod_count_42 : decode c_Mod_count 42 = .ok (.if_icmp .ne 10, 3) := by decide +kernel
theorem d_Mod_count_45 : decode c_Mod_count 45 = .ok (.aload_n 0, 1) := by decide +kernel
theorem d_Mod_count_46 : decode c_Mod_count 46 = .ok (.getfield 195, 3) := by decide +kernel
theorem d_Mod_count_49 : decode c_Mod_count 49 = .ok (.goto 16, 3) := by decide +kernel
theorem d_Mod_count_52 : decode c_Mod_count 52 = .ok (.iload_n 1, 1) := by decide +kernel
theorem d_Mod_count_53 : decode c_Mod_count 53 = .ok (.iconst 4, 1) := by decide +kernel
theorem d_Mod_count_54 : decode c_Mod_count 54 = .ok (.if_icmp .ne 10, 3) := by decide +kernel
theorem d_Mod_count_57 : decode c_Mod_count 57 = .ok (.aload_n 0, 1) := by decide +kernel
theorem d_Mod_count_58 : decode c_Mod_count 58 = .ok (.getfield 198, 3) := by decide +kernel
theorem d_Mod_count_61 : decode c_Mod_count 61 = .ok (.goto 4, 3) := by decide +kernel
theorem d_Mod_count_64 : decode c_Mod_count 64 = .ok (.iconst (-1), 1) := by decide +kernel
theorem d_Mod_count_65 : decode c_Mod_count 65 = .ok (.ireturn, 1) := by decide +kernel
theorem d_Mod_open_0 : decode c_Mod_open 0 = .ok (.aload_n 0, 1) := by decide +kernel
theorem d_Mod_open_1 : decode c_Mod_open 1 = .ok (.iload_n 1, 1) := by decide +kernel
theorem d_Mod_open_2 : decode c_Mod_open 2 = .ok (.iconst (-1), 1) := by decide +kernel
theorem d_Mod_open_3 : decode c_Mod_open 3 = .ok (.if_icmp .lt 24, 3) := by decide +kernel
theorem d_Mod_open_6 : decode c_Mod_open 6 = .ok (.iload_n 1, 1) := by decide +kernel
theorem d_Mod_open_7 : decode c_Mod_open 7 = .ok (.ifCond .lt 11, 3) := by decide +kernel
theorem d_Mod_open_10 : decode c_Mod_open 10 = .ok (.aload_n 0, 1) := by decide +kernel
theorem d_Mod_open_11 : decode c_Mod_open 11 = .ok (.iload_n 1, 1) := by decide +kernel
theorem d_Mod_open_12 : decode c_Mod_open 12 = .ok (.invokevirtual 204, 3) := by decide +kernel
theorem d_Mod_open_15 : decode c_Mod_open 15 = .ok (.ifCond .eq 12, 3) := by decide +kernel
theorem d_Mod_open_18 : decode c_Mod_open 18 = .ok (.iload_n 2, 1) := by decide +kernel
theorem d_Mod_open_19 : decode c_Mod_open 19 = .ok (.ifCond .lt 8, 3) := by decide +kernel
theorem d_Mod_open_22 : decode c_Mod_open 22 = .ok (.iload_n 2, 1) := by decide +kernel
theorem d_Mod_open_23 : decode c_Mod_open 23 = .ok (.iconst 2, 1) := by decide +kernel
theorem d_Mod_open_24 : decode c_Mod_open 24 = .ok (.if_icmp .le 7, 3) := by decide +kernel
theorem d_Mod_open_27 : decode c_Mod_open 27 = .ok (.iconst 1, 1) := by decide +kernel
theorem d_Mod_open_28 : decode c_Mod_open 28 = .ok (.goto 26, 3) := by decide +kernel
theorem d_Mod_open_31 : decode c_Mod_open 31 = .ok (.aload_n 0, 1) := by decide +kernel
theorem d_Mod_open_32 : decode c_Mod_open 32 = .ok (.getfield 192, 3) := by decide +kernel
theorem d_Mod_open_35 : decode c_Mod_open 35 = .ok (.bipush 12, 2) := by decide +kernel
theorem d_Mod_open_37 : decode c_Mod_open 37 = .ok (.if_icmp .eq 12, 3) := by decide +kernel
theorem d_Mod_open_40 : decode c_Mod_open 40 = .ok (.aload_n 0, 1) := by decide +kernel
theorem d_Mod_open_41 : decode c_Mod_open 41 = .ok (.getfield 121, 3) := by decide +kernel
theorem d_Mod_open_44 : decode c_Mod_open 44 = .ok (.bipush 48, 2) := by decide +kernel
theorem d_Mod_open_46 : decode c_Mod_open 46 = .ok (.if_icmp .ne 7, 3) := by decide +kernel
theorem d_Mod_open_49 : decode c_Mod_open 49 = .ok (.iconst 2, 1) := by decide +kernel
theorem d_Mod_open_50 : decode c_Mod_open 50 = .ok (.goto 4, 3) := by decide +kernel
theorem d_Mod_open_53 : decode c_Mod_open 53 = .ok (.iconst 0, 1) := by decide +kernel
theorem d_Mod_open_54 : decode c_Mod_open 54 = .ok (.putfield 111, 3) := by decide +kernel
theorem d_Mod_open_57 : decode c_Mod_open 57 = .ok (.aload_n 0, 1) := by decide +kernel
theorem d_Mod_open_58 : decode c_Mod_open 58 = .ok (.getfield 111, 3) := by decide +kernel
theorem d_Mod_open_61 : decode c_Mod_open 61 = .ok (.ifCond .le 5, 3) := by decide +kernel
theorem d_Mod_open_64 : decode c_Mod_open 64 = .ok (.iconst 0, 1) := by decide +kernel
theorem d_Mod_open_65 : decode c_Mod_open 65 = .ok (.ireturn, 1) := by decide +kernel
theorem d_Mod_open_66 : decode c_Mod_open 66 = .ok (.aload_n 0, 1) := by decide +kernel
theorem d_Mod_open_67 : decode c_Mod_open 67 = .ok (.getfield 192, 3) := by decide +kernel
theorem d_Mod_open_70 : decode c_Mod_open 70 = .ok (.istore 4, 2) := by decide +kernel
theorem d_Mod_open_72 : decode c_Mod_open 72 = .ok (.aload_n 0, 1) := by decide +kernel
theorem d_Mod_open_73 : decode c_Mod_open 73 = .ok (.dup, 1) := by decide +kernel
theorem d_Mod_open_74 : decode c_Mod_open 74 = .ok (.getfield 192, 3) := by decide +kernel
theorem d_Mod_open_77 : decode c_Mod_open 77 = .ok (.iconst 1, 1) := by decide +kernel
theorem d_Mod_open_78 : decode c_Mod_open 78 = .ok (.iadd, 1) := by decide +kernel
theorem d_Mod_open_79 : decode c_Mod_open 79 = .ok (.putfield 192, 3) := by decide +kernel
theorem d_Mod_open_82 : decode c_Mod_open 82 = .ok (.aload_n 0, 1) := by decide +kernel
theorem d_Mod_open_83 : decode c_Mod_open 83 = .ok (.getfield 54, 3) := by decide +kernel
theorem d_Mod_open_86 : decode c_Mod_open 86 = .ok (.iload 4, 2) := by decide +kernel
theorem d_Mod_open_88 : decode c_Mod_open 88 = .ok (.iload_n 1, 1) := by decide +kernel
theorem d_Mod_open_89 : decode c_Mod_open 89 = .ok (.iastore, 1) := by decide +kernel
theorem d_Mod_open_90 : decode c_Mod_open 90 = .ok (.aload_n 0, 1) := by decide +kernel
theorem d_Mod_open_91 : decode c_Mod_open 91 = .ok (.getfield 57, 3) := by decide +kernel
theorem d_Mod_open_94 : decode c_Mod_open 94 = .ok (.iload 4, 2) := by decide +kernel
theorem d_Mod_open_96 : decode c_Mod_open 96 = .ok (.iload_n 2, 1) := by decide +kernel
theorem d_Mod_open_97 : decode c_Mod_open 97 = .ok (.iastore, 1) := by decide +kernel
theorem d_Mod_open_98 : decode c_Mod_open 98 = .ok (.aload_n 0, 1) := by decide +kernel
theorem d_Mod_open_99 : decode c_Mod_open 99 = .ok (.getfield 60, 3) := by decide +kernel
theorem d_Mod_open_102 : decode c_Mod_open 102 = .ok (.iload 4, 2) := by decide +kernel
theorem d_Mod_open_104 : decode c_Mod_open 104 = .ok (.iload_n 3, 1) := by decide +kernel
theorem d_Mod_open_105 : decode c_Mod_open 105 = .ok (.ifCond .ge 7, 3) := by decide +kernel
theorem d_Mod_open_108 : decode c_Mod_open 108 = .ok (.iconst (-1), 1) := by decide +kernel
theorem d_Mod_open_109 : decode c_Mod_open 109 = .ok (.goto 4, 3) := by decide +kernel
theorem d_Mod_open_112 : decode c_Mod_open 112 = .ok (.iload_n 3, 1) := by decide +kernel
theorem d_Mod_open_113 : decode c_Mod_open 113 = .ok (.iastore, 1) := by decide +kernel
theorem d_Mod_open_114 : decode c_Mod_open 114 = .ok (.aload_n 0, 1) := by decide +kernel
theorem d_Mod_open_115 : decode c_Mod_open 115 = .ok (.getfield 75, 3) := by decide +kernel
theorem d_Mod_open_118 : decode c_Mod_open 118 = .ok (.iload 4, 2) := by decide +kernel
theorem d_Mod_open_120 : decode c_Mod_open 120 = .ok (.iconst (-1), 1) := by decide +kernel
theorem d_Mod_open_121 : decode c_Mod_open 121 = .ok (.iastore, 1) := by decide +kernel
theorem d_Mod_open_122 : decode c_Mod_open 122 = .ok (.aload_n 0, 1) := by decide +kernel
theorem d_Mod_open_123 : decode c_Mod_open 123 = .ok (.getfield 78, 3) := by decide +kernel
theorem d_Mod_open_126 : decode c_Mod_open 126 = .ok (.iload 4, 2) := by decide +kernel
theorem d_Mod_open_128 : decode c_Mod_open 128 = .ok (.iconst (-1), 1) := by decide +kernel
theorem d_Mod_open_129 : decode c_Mod_open 129 = .ok (.iastore, 1) := by decide +kernel
theorem d_Mod_open_130 : decode c_Mod_open 130 = .ok (.aload_n 0, 1) := by decide +kernel
theorem d_Mod_open_131 : decode c_Mod_open 131 = .ok (.getfield 66, 3) := by decide +kernel
theorem d_Mod_open_134 : decode c_Mod_open 134 = .ok (.iload 4, 2) := by decide +kernel
theorem d_Mod_open_136 : decode c_Mod_open 136 = .ok (.aload_n 0, 1) := by decide +kernel
theorem d_Mod_open_137 : decode c_Mod_open 137 = .ok (.bipush 9, 2) := by decide +kernel
theorem d_Mod_open_139 : decode c_Mod_open 139 = .ok (.iconst 0, 1) := by decide +kernel
theorem d_Mod_open_140 : decode c_Mod_open 140 = .ok (.iconst 0, 1) := by decide +kernel
theorem d_Mod_open_141 : decode c_Mod_open 141 = .ok (.lconst 0, 1) := by decide +kernel
theorem d_Mod_open_142 : decode c_Mod_open 142 = .ok (.iconst 0, 1) := by decide +kernel
theorem d_Mod_open_143 : decode c_Mod_open 143 = .ok (.iconst 0, 1) := by decide +kernel
theorem d_Mod_open_144 : decode c_Mod_open 144 = .ok (.iconst 0, 1) := by decide +kernel
theorem d_Mod_open_145 : decode c_Mod_open 145 = .ok (.invokevirtual 181, 3) := by decide +kernel
theorem d_Mod_open_148 : decode c_Mod_open 148 = .ok (.iastore, 1) := by decide +kernel
theorem d_Mod_open_149 : decode c_Mod_open 149 = .ok (.iload 4, 2) := by decide +kernel
theorem d_Mod_open_151 : decode c_Mod_open 151 = .ok (.ireturn, 1) := by decide +kernel
theorem d_Mod_isOpen_0 : decode c_Mod_isOpen 0 = .ok (.aload_n 0, 1) := by decide +kernel
theorem d_Mod_isOpen_1 : decode c_Mod_isOpen 1 = .ok (.iload_n 1, 1) := by decide +kernel
theorem d_Mod_isOpen_2 : decode c_Mod_isOpen 2 = .ok (.invokevirtual 201, 3) := by decide +kernel
theorem d_Mod_isOpen_5 : decode c_Mod_isOpen 5 = .ok (.ifCond .eq 28, 3) := by decide +kernel
theorem d_Mod_isOpen_8 : decode c_Mod_isOpen 8 = .ok (.aload_n 0, 1) := by decide +kernel
theorem d_Mod_isOpen_9 : decode c_Mod_isOpen 9 = .ok (.getfield 63, 3) := by decide +kernel
theorem d_Mod_isOpen_12 : decode c_Mod_isOpen 12 = .ok (.aload_n 0, 1) := by decide +kernel
theorem d_Mod_isOpen_13 : decode c_Mod_isOpen 13 = .ok (.iload_n 1, 1) := by decide +kernel
theorem d_Mod_isOpen_14 : decode c_Mod_isOpen 14 = .ok (.invokevirtual 201, 3) := by decide +kernel
theorem d_Mod_isOpen_17 : decode c_Mod_isOpen 17 = .ok (.ifCond .eq 7, 3) := by decide +kernel
theorem d_Mod_isOpen_20 : decode c_Mod_isOpen 20 = .ok (.iload_n 1, 1) := by decide +kernel
theorem d_Mod_isOpen_21 : decode c_Mod_isOpen 21 = .ok (.goto 4, 3) := by decide +kernel
theorem d_Mod_isOpen_24 : decode c_Mod_isOpen 24 = .ok (.iconst 0, 1) := by decide +kernel
theorem d_Mod_isOpen_25 : decode c_Mod_isOpen 25 = .ok (.iaload, 1) := by decide +kernel
theorem d_Mod_isOpen_26 : decode c_Mod_isOpen 26 = .ok (.ifCond .ne 7, 3) := by decide +kernel
theorem d_Mod_isOpen_29 : decode c_Mod_isOpen 29 = .ok (.iconst 1, 1) := by decide +kernel
theorem d_Mod_isOpen_30 : decode c_Mod_isOpen 30 = .ok (.goto 4, 3) := by decide +kernel
theorem d_Mod_isOpen_33 : decode c_Mod_isOpen 33 = .ok (.iconst 0, 1) := by decide +kernel
theorem d_Mod_isOpen_34 : decode c_Mod_isOpen 34 = .ok (.ireturn, 1) := by decide +kernel
theorem d_Mod_isScope_0 : decode c_Mod_isScope 0 = .ok (.iload_n 1, 1) := by decide +kernel
theorem d_Mod_isScope_1 : decode c_Mod_isScope 1 = .ok (.ifCond .lt 15, 3) := by decide +kernel
theorem d_Mod_isScope_4 : decode c_Mod_isScope 4 = .ok (.iload_n 1, 1) := by decide +kernel
theorem d_Mod_isScope_5 : decode c_Mod_isScope 5 = .ok (.aload_n 0, 1) := by decide +kernel
theorem d_Mod_isScope_6 : decode c_Mod_isScope 6 = .ok (.getfield 192, 3) := by decide +kernel
theorem d_Mod_isScope_9 : decode c_Mod_isScope 9 = .ok (.if_icmp .ge 7, 3) := by decide +kernel
theorem d_Mod_isScope_12 : decode c_Mod_isScope 12 = .ok (.iconst 1, 1) := by decide +kernel
theorem d_Mod_isScope_13 : decode c_Mod_isScope 13 = .ok (.goto 4, 3) := by decide +kernel
theorem d_Mod_isScope_16 : decode c_Mod_isScope 16 = .ok (.iconst 0, 1) := by decide +kernel
theorem d_Mod_isScope_17 : decode c_Mod_isScope 17 = .ok (.ireturn, 1) := by decide +kernel
theorem d_Mod_bind_0 : decode c_Mod_bind 0 = .ok (.aload_n 0, 1) := by decide +kernel
theorem d_Mod_bind_1 : decode c_Mod_bind 1 = .ok (.iconst 0, 1) := by decide +kernel
theorem d_Mod_bind_2 : decode c_Mod_bind 2 = .ok (.putfield 111, 3) := by decide +kernel
theorem d_Mod_bind_5 : decode c_Mod_bind 5 = .ok (.aload_n 0, 1) := by decide +kernel
theorem d_Mod_bind_6 : decode c_Mod_bind 6 = .ok (.iload_n 1, 1) := by decide +kernel
theorem d_Mod_bind_7 : decode c_Mod_bind 7 = .ok (.invokevirtual 204, 3) := by decide +kernel
theorem d_Mod_bind_10 : decode c_Mod_bind 10 = .ok (.ifCond .eq 12, 3) := by decide +kernel
theorem d_Mod_bind_13 : decode c_Mod_bind 13 = .ok (.iload_n 2, 1) := by decide +kernel
theorem d_Mod_bind_14 : decode c_Mod_bind 14 = .ok (.ifCond .lt 8, 3) := by decide +kernel
theorem d_Mod_bind_17 : decode c_Mod_bind 17 = .ok (.iload_n 2, 1) := by decide +kernel
theorem d_Mod_bind_18 : decode c_Mod_bind 18 = .ok (.iconst 3, 1) := by decide +kernel
theorem d_Mod_bind_19 : decode c_Mod_bind 19 = .ok (.if_icmp .le 5, 3) := by decide +kernel
theorem d_Mod_bind_22 : decode c_Mod_bind 22 = .ok (.iconst 0, 1) := by decide +kernel
theorem d_Mod_bind_23 : decode c_Mod_bind 23 = .ok (.ireturn, 1) := by decide +kernel
theorem d_Mod_bind_24 : decode c_Mod_bind 24 = .ok (.aload_n 0, 1) := by decide +kernel
theorem d_Mod_bind_25 : decode c_Mod_bind 25 = .ok (.getfield 81, 3) := by decide +kernel
theorem d_Mod_bind_28 : decode c_Mod_bind 28 = .ok (.iconst 4, 1) := by decide +kernel
theorem d_Mod_bind_29 : decode c_Mod_bind 29 = .ok (.iload_n 1, 1) := by decide +kernel
theorem d_Mod_bind_30 : decode c_Mod_bind 30 = .ok (.imul, 1) := by decide +kernel
theorem d_Mod_bind_31 : decode c_Mod_bind 31 = .ok (.iload_n 2, 1) := by decide +kernel
theorem d_Mod_bind_32 : decode c_Mod_bind 32 = .ok (.iadd, 1) := by decide +kernel
theorem d_Mod_bind_33 : decode c_Mod_bind 33 = .ok (.iconst 1, 1) := by decide +kernel
theorem d_Mod_bind_34 : decode c_Mod_bind 34 = .ok (.bastore, 1) := by decide +kernel
theorem d_Mod_bind_35 : decode c_Mod_bind 35 = .ok (.aload_n 0, 1) := by decide +kernel
theorem d_Mod_bind_36 : decode c_Mod_bind 36 = .ok (.getfield 84, 3) := by decide +kernel
theorem d_Mod_bind_39 : decode c_Mod_bind 39 = .ok (.iconst 4, 1) := by decide +kernel
theorem d_Mod_bind_40 : decode c_Mod_bind 40 = .ok (.iload_n 1, 1) := by decide +kernel
theorem d_Mod_bind_41 : decode c_Mod_bind 41 = .ok (.imul, 1) := by decide +kernel
theorem d_Mod_bind_42 : decode c_Mod_bind 42 = .ok (.iload_n 2, 1) := by decide +kernel
theorem d_Mod_bind_43 : decode c_Mod_bind 43 = .ok (.iadd, 1) := by decide +kernel
theorem d_Mod_bind_44 : decode c_Mod_bind 44 = .ok (.iload_n 3, 1) := by decide +kernel
theorem d_Mod_bind_45 : decode c_Mod_bind 45 = .ok (.iastore, 1) := by decide +kernel
theorem d_Mod_bind_46 : decode c_Mod_bind 46 = .ok (.iconst 1, 1) := by decide +kernel
theorem d_Mod_bind_47 : decode c_Mod_bind 47 = .ok (.ireturn, 1) := by decide +kernel
theorem d_Mod_bound_0 : decode c_Mod_bound 0 = .ok (.aload_n 0, 1) := by decide +kernel
theorem d_Mod_bound_1 : decode c_Mod_bound 1 = .ok (.aload_n 0, 1) := by decide +kernel
theorem d_Mod_bound_2 : decode c_Mod_bound 2 = .ok (.iload_n 1, 1) := by decide +kernel
theorem d_Mod_bound_3 : decode c_Mod_bound 3 = .ok (.invokevirtual 201, 3) := by decide +kernel
theorem d_Mod_bound_6 : decode c_Mod_bound 6 = .ok (.ifCond .eq 12, 3) := by decide +kernel
theorem d_Mod_bound_9 : decode c_Mod_bound 9 = .ok (.iload_n 2, 1) := by decide +kernel
theorem d_Mod_bound_10 : decode c_Mod_bound 10 = .ok (.ifCond .lt 8, 3) := by decide +kernel
theorem d_Mod_bound_13 : decode c_Mod_bound 13 = .ok (.iload_n 2, 1) := by decide +kernel
theorem d_Mod_bound_14 : decode c_Mod_bound 14 = .ok (.iconst 3, 1) := by decide +kernel
theorem d_Mod_bound_15 : decode c_Mod_bound 15 = .ok (.if_icmp .le 7, 3) := by decide +kernel
theorem d_Mod_bound_18 : decode c_Mod_bound 18 = .ok (.iconst 1, 1) := by decide +kernel
theorem d_Mod_bound_19 : decode c_Mod_bound 19 = .ok (.goto 4, 3) := by decide +kernel
theorem d_Mod_bound_22 : decode c_Mod_bound 22 = .ok (.iconst 0, 1) := by decide +kernel
theorem d_Mod_bound_23 : decode c_Mod_bound 23 = .ok (.putfield 111, 3) := by decide +kernel
theorem d_Mod_bound_26 : decode c_Mod_bound 26 = .ok (.aload_n 0, 1) := by decide +kernel
theorem d_Mod_bound_27 : decode c_Mod_bound 27 = .ok (.getfield 111, 3) := by decide +kernel
theorem d_Mod_bound_30 : decode c_Mod_bound 30 = .ok (.ifCond .le 7, 3) := by decide +kernel
theorem d_Mod_bound_33 : decode c_Mod_bound 33 = .ok (.iconst 0, 1) := by decide +kernel
theorem d_Mod_bound_34 : decode c_Mod_bound 34 = .ok (.goto 9, 3) := by decide +kernel
theorem d_Mod_bound_37 : decode c_Mod_bound 37 = .ok (.aload_n 0, 1) := by decide +kernel
theorem d_Mod_bound_38 : decode c_Mod_bound 38 = .ok (.iload_n 1, 1) := by decide +kernel
theorem d_Mod_bound_39 : decode c_Mod_bound 39 = .ok (.iload_n 2, 1) := by decide +kernel
theorem d_Mod_bound_40 : decode c_Mod_bound 40 = .ok (.invokevirtual 207, 3) := by decide +kernel
theorem d_Mod_bound_43 : decode c_Mod_bound 43 = .ok (.ireturn, 1) := by decide +kernel
theorem d_Mod_look_0 : decode c_Mod_look 0 = .ok (.iload_n 1, 1) := by decide +kernel
theorem d_Mod_look_1 : decode c_Mod_look 1 = .ok (.istore_n 3, 1) := by decide +kernel
theorem d_Mod_look_2 : decode c_Mod_look 2 = .ok (.iload_n 3, 1) := by decide +kernel
theorem d_Mod_look_3 : decode c_Mod_look 3 = .ok (.ifCond .lt 34, 3) := by decide +kernel
theorem d_Mod_look_6 : decode c_Mod_look 6 = .ok (.aload_n 0, 1) := by decide +kernel
theorem d_Mod_look_7 : decode c_Mod_look 7 = .ok (.getfield 81, 3) := by decide +kernel
theorem d_Mod_look_10 : decode c_Mod_look 10 = .ok (.iload_n 3, 1) := by decide +kernel
theorem d_Mod_look_11 : decode c_Mod_look 11 = .ok (.ifCond .lt 11, 3) := by decide +kernel
theorem d_Mod_look_14 : decode c_Mod_look 14 = .ok (.iconst 4, 1) := by decide +kernel
theorem d_Mod_look_15 : decode c_Mod_look 15 = .ok (.iload_n 3, 1) := by decide +kernel
theorem d_Mod_look_16 : decode c_Mod_look 16 = .ok (.imul, 1) := by decide +kernel
theorem d_Mod_look_17 : decode c_Mod_look 17 = .ok (.iload_n 2, 1) := by decide +kernel
theorem d_Mod_look_18 : decode c_Mod_look 18 = .ok (.iadd, 1) := by decide +kernel
theorem d_Mod_look_19 : decode c_Mod_look 19 = .ok (.goto 4, 3) := by decide +kernel
theorem d_Mod_look_22 : decode c_Mod_look 22 = .ok (.iconst 0, 1) := by decide +kernel
theorem d_Mod_look_23 : decode c_Mod_look 23 = .ok (.baload, 1) := by decide +kernel
theorem d_Mod_look_24 : decode c_Mod_look 24 = .ok (.ifCond .ne 13, 3) := by decide +kernel
theorem d_Mod_look_27 : decode c_Mod_look 27 = .ok (.aload_n 0, 1) := by decide +kernel
theorem d_Mod_look_28 : decode c_Mod_look 28 = .ok (.getfield 54, 3) := by decide +kernel
theorem d_Mod_look_31 : decode c_Mod_look 31 = .ok (.iload_n 3, 1) := by decide +kernel
theorem d_Mod_look_32 : decode c_Mod_look 32 = .ok (.iaload, 1) := by decide +kernel
theorem d_Mod_look_33 : decode c_Mod_look 33 = .ok (.istore_n 3, 1) := by decide +kernel
theorem d_Mod_look_34 : decode c_Mod_look 34 = .ok (.goto (-32), 3) := by decide +kernel
theorem d_Mod_look_37 : decode c_Mod_look 37 = .ok (.iload_n 3, 1) := by decide +kernel
theorem d_Mod_look_38 : decode c_Mod_look 38 = .ok (.ifCond .ge 7, 3) := by decide +kernel
theorem d_Mod_look_41 : decode c_Mod_look 41 = .ok (.iconst 0, 1) := by decide +kernel
theorem d_Mod_look_42 : decode c_Mod_look 42 = .ok (.goto 13, 3) := by decide +kernel
theorem d_Mod_look_45 : decode c_Mod_look 45 = .ok (.aload_n 0, 1) := by decide +kernel
theorem d_Mod_look_46 : decode c_Mod_look 46 = .ok (.getfield 84, 3) := by decide +kernel
theorem d_Mod_look_49 : decode c_Mod_look 49 = .ok (.iconst 4, 1) := by decide +kernel
theorem d_Mod_look_50 : decode c_Mod_look 50 = .ok (.iload_n 3, 1) := by decide +kernel
theorem d_Mod_look_51 : decode c_Mod_look 51 = .ok (.imul, 1) := by decide +kernel
theorem d_Mod_look_52 : decode c_Mod_look 52 = .ok (.iload_n 2, 1) := by decide +kernel
theorem d_Mod_look_53 : decode c_Mod_look 53 = .ok (.iadd, 1) := by decide +kernel
theorem d_Mod_look_54 : decode c_Mod_look 54 = .ok (.iaload, 1) := by decide +kernel
theorem d_Mod_look_55 : decode c_Mod_look 55 = .ok (.ireturn, 1) := by decide +kernel
theorem d_Mod_fork_0 : decode c_Mod_fork 0 = .ok (.aload_n 0, 1) := by decide +kernel
theorem d_Mod_fork_1 : decode c_Mod_fork 1 = .ok (.aload_n 0, 1) := by decide +kernel
theorem d_Mod_fork_2 : decode c_Mod_fork 2 = .ok (.iload_n 1, 1) := by decide +kernel
theorem d_Mod_fork_3 : decode c_Mod_fork 3 = .ok (.invokevirtual 204, 3) := by decide +kernel
theorem d_Mod_fork_6 : decode c_Mod_fork 6 = .ok (.ifCond .eq 23, 3) := by decide +kernel
theorem d_Mod_fork_9 : decode c_Mod_fork 9 = .ok (.iload_n 2, 1) := by decide +kernel
theorem d_Mod_fork_10 : decode c_Mod_fork 10 = .ok (.iconst 1, 1) := by decide +kernel
theorem d_Mod_fork_11 : decode c_Mod_fork 11 = .ok (.if_icmp .lt 18, 3) := by decide +kernel
theorem d_Mod_fork_14 : decode c_Mod_fork 14 = .ok (.iload_n 2, 1) := by decide +kernel
theorem d_Mod_fork_15 : decode c_Mod_fork 15 = .ok (.bipush 50, 2) := by decide +kernel
theorem d_Mod_fork_17 : decode c_Mod_fork 17 = .ok (.if_icmp .gt 12, 3) := by decide +kernel
theorem d_Mod_fork_20 : decode c_Mod_fork 20 = .ok (.iload_n 3, 1) := by decide +kernel
theorem d_Mod_fork_21 : decode c_Mod_fork 21 = .ok (.ifCond .lt 8, 3) := by decide +kernel
theorem d_Mod_fork_24 : decode c_Mod_fork 24 = .ok (.iload_n 3, 1) := by decide +kernel
theorem d_Mod_fork_25 : decode c_Mod_fork 25 = .ok (.iconst 5, 1) := by decide +kernel
theorem d_Mod_fork_26 : decode c_Mod_fork 26 = .ok (.if_icmp .le 7, 3) := by decide +kernel
theorem d_Mod_fork_29 : decode c_Mod_fork 29 = .ok (.iconst 1, 1) := by decide +kernel
theorem d_Mod_fork_30 : decode c_Mod_fork 30 = .ok (.goto 17, 3) := by decide +kernel
theorem d_Mod_fork_33 : decode c_Mod_fork 33 = .ok (.aload_n 0, 1) := by decide +kernel
theorem d_Mod_fork_34 : decode c_Mod_fork 34 = .ok (.getfield 195, 3) := by decide +kernel
theorem d_Mod_fork_37 : decode c_Mod_fork 37 = .ok (.bipush 30, 2) := by decide +kernel
theorem d_Mod_fork_39 : decode c_Mod_fork 39 = .ok (.if_icmp .ne 7, 3) := by decide +kernel
theorem d_Mod_fork_42 : decode c_Mod_fork 42 = .ok (.iconst 2, 1) := by decide +kernel
theorem d_Mod_fork_43 : decode c_Mod_fork 43 = .ok (.goto 4, 3) := by decide +kernel
theorem d_Mod_fork_46 : decode c_Mod_fork 46 = .ok (.iconst 0, 1) := by decide +kernel
theorem d_Mod_fork_47 : decode c_Mod_fork 47 = .ok (.putfield 111, 3) := by decide +kernel
theorem d_Mod_fork_50 : decode c_Mod_fork 50 = .ok (.aload_n 0, 1) := by decide +kernel
theorem d_Mod_fork_51 : decode c_Mod_fork 51 = .ok (.getfield 111, 3) := by decide +kernel
theorem d_Mod_fork_54 : decode c_Mod_fork 54 = .ok (.ifCond .le 5, 3) := by decide +kernel
theorem d_Mod_fork_57 : decode c_Mod_fork 57 = .ok (.iconst 0, 1) := by decide +kernel
theorem d_Mod_fork_58 : decode c_Mod_fork 58 = .ok (.ireturn, 1) := by decide +kernel
theorem d_Mod_fork_59 : decode c_Mod_fork 59 = .ok (.aload_n 0, 1) := by decide +kernel
theorem d_Mod_fork_60 : decode c_Mod_fork 60 = .ok (.getfield 195, 3) := by decide +kernel
theorem d_Mod_fork_63 : decode c_Mod_fork 63 = .ok (.istore 5, 2) := by decide +kernel
theorem d_Mod_fork_65 : decode c_Mod_fork 65 = .ok (.aload_n 0, 1) := by decide +kernel
theorem d_Mod_fork_66 : decode c_Mod_fork 66 = .ok (.dup, 1) := by decide +kernel
theorem d_Mod_fork_67 : decode c_Mod_fork 67 = .ok (.getfield 195, 3) := by decide +kernel
theorem d_Mod_fork_70 : decode c_Mod_fork 70 = .ok (.iconst 1, 1) := by decide +kernel
theorem d_Mod_fork_71 : decode c_Mod_fork 71 = .ok (.iadd, 1) := by decide +kernel
theorem d_Mod_fork_72 : decode c_Mod_fork 72 = .ok (.putfield 195, 3) := by decide +kernel
theorem d_Mod_fork_75 : decode c_Mod_fork 75 = .ok (.aload_n 0, 1) := by decide +kernel
theorem d_Mod_fork_76 : decode c_Mod_fork 76 = .ok (.getfield 87, 3) := by decide +kernel
theorem d_Mod_fork_79 : decode c_Mod_fork 79 = .ok (.iload 5, 2) := by decide +kernel
theorem d_Mod_fork_81 : decode c_Mod_fork 81 = .ok (.iload_n 1, 1) := by decide +kernel
theorem d_Mod_fork_82 : decode c_Mod_fork 82 = .ok (.iastore, 1) := by decide +kernel
theorem d_Mod_fork_83 : decode c_Mod_fork 83 = .ok (.aload_n 0, 1) := by decide +kernel
theorem d_Mod_fork_84 : decode c_Mod_fork 84 = .ok (.getfield 90, 3) := by decide +kernel
theorem d_Mod_fork_87 : decode c_Mod_fork 87 = .ok (.iload 5, 2) := by decide +kernel
theorem d_Mod_fork_89 : decode c_Mod_fork 89 = .ok (.iload_n 2, 1) := by decide +kernel
theorem d_Mod_fork_90 : decode c_Mod_fork 90 = .ok (.iastore, 1) := by decide +kernel
theorem d_Mod_fork_91 : decode c_Mod_fork 91 = .ok (.aload_n 0, 1) := by decide +kernel
theorem d_Mod_fork_92 : decode c_Mod_fork 92 = .ok (.getfield 93, 3) := by decide +kernel
theorem d_Mod_fork_95 : decode c_Mod_fork 95 = .ok (.iload 5, 2) := by decide +kernel
theorem d_Mod_fork_97 : decode c_Mod_fork 97 = .ok (.iload_n 3, 1) := by decide +kernel
theorem d_Mod_fork_98 : decode c_Mod_fork 98 = .ok (.iastore, 1) := by decide +kernel
theorem d_Mod_fork_99 : decode c_Mod_fork 99 = .ok (.aload_n 0, 1) := by decide +kernel
theorem d_Mod_fork_100 : decode c_Mod_fork 100 = .ok (.getfield 96, 3) := by decide +kernel
theorem d_Mod_fork_103 : decode c_Mod_fork 103 = .ok (.iload 5, 2) := by decide +kernel
theorem d_Mod_fork_105 : decode c_Mod_fork 105 = .ok (.iload 4, 2) := by decide +kernel
theorem d_Mod_fork_107 : decode c_Mod_fork 107 = .ok (.iastore, 1) := by decide +kernel
theorem d_Mod_fork_108 : decode c_Mod_fork 108 = .ok (.aload_n 0, 1) := by decide +kernel
theorem d_Mod_fork_109 : decode c_Mod_fork 109 = .ok (.getfield 99, 3) := by decide +kernel
theorem d_Mod_fork_112 : decode c_Mod_fork 112 = .ok (.iload 5, 2) := by decide +kernel
theorem d_Mod_fork_114 : decode c_Mod_fork 114 = .ok (.aload_n 0, 1) := by decide +kernel
theorem d_Mod_fork_115 : decode c_Mod_fork 115 = .ok (.iload_n 1, 1) := by decide +kernel
theorem d_Mod_fork_116 : decode c_Mod_fork 116 = .ok (.iconst 0, 1) := by decide +kernel
theorem d_Mod_fork_117 : decode c_Mod_fork 117 = .ok (.invokevirtual 207, 3) := by decide +kernel
theorem d_Mod_fork_120 : decode c_Mod_fork 120 = .ok (.iastore, 1) := by decide +kernel
theorem d_Mod_fork_121 : decode c_Mod_fork 121 = .ok (.aload_n 0, 1) := by decide +kernel
theorem d_Mod_fork_122 : decode c_Mod_fork 122 = .ok (.getfield 102, 3) := by decide +kernel
theorem d_Mod_fork_125 : decode c_Mod_fork 125 = .ok (.iload 5, 2) := by decide +kernel
theorem d_Mod_fork_127 : decode c_Mod_fork 127 = .ok (.aload_n 0, 1) := by decide +kernel
theorem d_Mod_fork_128 : decode c_Mod_fork 128 = .ok (.getfield 69, 3) := by decide +kernel
theorem d_Mod_fork_131 : decode c_Mod_fork 131 = .ok (.iload_n 1, 1) := by decide +kernel
theorem d_Mod_fork_132 : decode c_Mod_fork 132 = .ok (.baload, 1) := by decide +kernel
theorem d_Mod_fork_133 : decode c_Mod_fork 133 = .ok (.ifCond .eq 7, 3) := by decide +kernel
theorem d_Mod_fork_136 : decode c_Mod_fork 136 = .ok (.iconst 3, 1) := by decide +kernel
theorem d_Mod_fork_137 : decode c_Mod_fork 137 = .ok (.goto 4, 3) := by decide +kernel
theorem d_Mod_fork_140 : decode c_Mod_fork 140 = .ok (.iconst 0, 1) := by decide +kernel
theorem d_Mod_fork_141 : decode c_Mod_fork 141 = .ok (.iastore, 1) := by decide +kernel
theorem d_Mod_fork_142 : decode c_Mod_fork 142 = .ok (.iload 5, 2) := by decide +kernel
theorem d_Mod_fork_144 : decode c_Mod_fork 144 = .ok (.ireturn, 1) := by decide +kernel
theorem d_Mod_joinScope_0 : decode c_Mod_joinScope 0 = .ok (.aload_n 0, 1) := by decide +kernel
theorem d_Mod_joinScope_1 : decode c_Mod_joinScope 1 = .ok (.iconst 0, 1) := by decide +kernel
theorem d_Mod_joinScope_2 : decode c_Mod_joinScope 2 = .ok (.putfield 111, 3) := by decide +kernel
theorem d_Mod_joinScope_5 : decode c_Mod_joinScope 5 = .ok (.aload_n 0, 1) := by decide +kernel
theorem d_Mod_joinScope_6 : decode c_Mod_joinScope 6 = .ok (.iload_n 1, 1) := by decide +kernel
theorem d_Mod_joinScope_7 : decode c_Mod_joinScope 7 = .ok (.invokevirtual 204, 3) := by decide +kernel
theorem d_Mod_joinScope_10 : decode c_Mod_joinScope 10 = .ok (.istore_n 2, 1) := by decide +kernel
theorem d_Mod_joinScope_11 : decode c_Mod_joinScope 11 = .ok (.iconst 0, 1) := by decide +kernel
theorem d_Mod_joinScope_12 : decode c_Mod_joinScope 12 = .ok (.istore_n 3, 1) := by decide +kernel
theorem d_Mod_joinScope_13 : decode c_Mod_joinScope 13 = .ok (.iload_n 3, 1) := by decide +kernel
theorem d_Mod_joinScope_14 : decode c_Mod_joinScope 14 = .ok (.aload_n 0, 1) := by decide +kernel
theorem d_Mod_joinScope_15 : decode c_Mod_joinScope 15 = .ok (.getfield 192, 3) := by decide +kernel
theorem d_Mod_joinScope_18 : decode c_Mod_joinScope 18 = .ok (.if_icmp .ge 37, 3) := by decide +kernel
theorem d_Mod_joinScope_21 : decode c_Mod_joinScope 21 = .ok (.iload_n 2, 1) := by decide +kernel
theorem d_Mod_joinScope_22 : decode c_Mod_joinScope 22 = .ok (.ifCond .eq 33, 3) := by decide +kernel
theorem d_Mod_joinScope_25 : decode c_Mod_joinScope 25 = .ok (.aload_n 0, 1) := by decide +kernel
theorem d_Mod_joinScope_26 : decode c_Mod_joinScope 26 = .ok (.getfield 63, 3) := by decide +kernel
theorem d_Mod_joinScope_29 : decode c_Mod_joinScope 29 = .ok (.iload_n 3, 1) := by decide +kernel
theorem d_Mod_joinScope_30 : decode c_Mod_joinScope 30 = .ok (.iaload, 1) := by decide +kernel
theorem d_Mod_joinScope_31 : decode c_Mod_joinScope 31 = .ok (.ifCond .ne 12, 3) := by decide +kernel
theorem d_Mod_joinScope_34 : decode c_Mod_joinScope 34 = .ok (.aload_n 0, 1) := by decide +kernel
theorem d_Mod_joinScope_35 : decode c_Mod_joinScope 35 = .ok (.iload_n 3, 1) := by decide +kernel
theorem d_Mod_joinScope_36 : decode c_Mod_joinScope 36 = .ok (.iload_n 1, 1) := by decide +kernel
theorem d_Mod_joinScope_37 : decode c_Mod_joinScope 37 = .ok (.invokevirtual 211, 3) := by decide +kernel
theorem d_Mod_joinScope_40 : decode c_Mod_joinScope 40 = .ok (.ifCond .ne 7, 3) := by decide +kernel
theorem d_Mod_joinScope_43 : decode c_Mod_joinScope 43 = .ok (.iconst 1, 1) := by decide +kernel
theorem d_Mod_joinScope_44 : decode c_Mod_joinScope 44 = .ok (.goto 4, 3) := by decide +kernel
theorem d_Mod_joinScope_47 : decode c_Mod_joinScope 47 = .ok (.iconst 0, 1) := by decide +kernel
theorem d_Mod_joinScope_48 : decode c_Mod_joinScope 48 = .ok (.istore_n 2, 1) := by decide +kernel
theorem d_Mod_joinScope_49 : decode c_Mod_joinScope 49 = .ok (.iinc 3 1, 3) := by decide +kernel
theorem d_Mod_joinScope_52 : decode c_Mod_joinScope 52 = .ok (.goto (-39), 3) := by decide +kernel
theorem d_Mod_joinScope_55 : decode c_Mod_joinScope 55 = .ok (.iload_n 2, 1) := by decide +kernel
theorem d_Mod_joinScope_56 : decode c_Mod_joinScope 56 = .ok (.ifCond .ne 5, 3) := by decide +kernel
theorem d_Mod_joinScope_59 : decode c_Mod_joinScope 59 = .ok (.iconst 0, 1) := by decide +kernel
theorem d_Mod_joinScope_60 : decode c_Mod_joinScope 60 = .ok (.ireturn, 1) := by decide +kernel
theorem d_Mod_joinScope_61 : decode c_Mod_joinScope 61 = .ok (.aload_n 0, 1) := by decide +kernel
theorem d_Mod_joinScope_62 : decode c_Mod_joinScope 62 = .ok (.getfield 63, 3) := by decide +kernel
theorem d_Mod_joinScope_65 : decode c_Mod_joinScope 65 = .ok (.iload_n 1, 1) := by decide +kernel
theorem d_Mod_joinScope_66 : decode c_Mod_joinScope 66 = .ok (.iconst 1, 1) := by decide +kernel
theorem d_Mod_joinScope_67 : decode c_Mod_joinScope 67 = .ok (.iastore, 1) := by decide +kernel
theorem d_Mod_joinScope_68 : decode c_Mod_joinScope 68 = .ok (.aload_n 0, 1) := by decide +kernel
theorem d_Mod_joinScope_69 : decode c_Mod_joinScope 69 = .ok (.invokevirtual 221, 3) := by decide +kernel
theorem d_Mod_joinScope_72 : decode c_Mod_joinScope 72 = .ok (.iconst 1, 1) := by decide +kernel
theorem d_Mod_joinScope_73 : decode c_Mod_joinScope 73 = .ok (.ireturn, 1) := by decide +kernel
theorem d_Mod_below_0 : decode c_Mod_below 0 = .ok (.aload_n 0, 1) := by decide +kernel
theorem d_Mod_below_1 : decode c_Mod_below 1 = .ok (.getfield 54, 3) := by decide +kernel
theorem d_Mod_below_4 : decode c_Mod_below 4 = .ok (.iload_n 1, 1) := by decide +kernel
theorem d_Mod_below_5 : decode c_Mod_below 5 = .ok (.iaload, 1) := by decide +kernel
theorem d_Mod_below_6 : decode c_Mod_below 6 = .ok (.istore_n 3, 1) := by decide +kernel
theorem d_Mod_below_7 : decode c_Mod_below 7 = .ok (.iload_n 3, 1) := by decide +kernel
theorem d_Mod_below_8 : decode c_Mod_below 8 = .ok (.iload_n 2, 1) := by decide +kernel
theorem d_Mod_below_9 : decode c_Mod_below 9 = .ok (.if_icmp .le 13, 3) := by decide +kernel
theorem d_Mod_below_12 : decode c_Mod_below 12 = .ok (.aload_n 0, 1) := by decide +kernel
theorem d_Mod_below_13 : decode c_Mod_below 13 = .ok (.getfield 54, 3) := by decide +kernel
theorem d_Mod_below_16 : decode c_Mod_below 16 = .ok (.iload_n 3, 1) := by decide +kernel
theorem d_Mod_below_17 : decode c_Mod_below 17 = .ok (.iaload, 1) := by decide +kernel
theorem d_Mod_below_18 : decode c_Mod_below 18 = .ok (.istore_n 3, 1) := by decide +kernel
theorem d_Mod_below_19 : decode c_Mod_below 19 = .ok (.goto (-12), 3) := by decide +kernel
theorem d_Mod_below_22 : decode c_Mod_below 22 = .ok (.iload_n 3, 1) := by decide +kernel
theorem d_Mod_below_23 : decode c_Mod_below 23 = .ok (.iload_n 2, 1) := by decide +kernel
theorem d_Mod_below_24 : decode c_Mod_below 24 = .ok (.if_icmp .ne 7, 3) := by decide +kernel
theorem d_Mod_below_27 : decode c_Mod_below 27 = .ok (.iconst 1, 1) := by decide +kernel
theorem d_Mod_below_28 : decode c_Mod_below 28 = .ok (.goto 4, 3) := by decide +kernel
theorem d_Mod_below_31 : decode c_Mod_below 31 = .ok (.iconst 0, 1) := by decide +kernel
theorem d_Mod_below_32 : decode c_Mod_below 32 = .ok (.ireturn, 1) := by decide +kernel
theorem d_Mod_closeAll_0 : decode c_Mod_closeAll 0 = .ok (.aload_n 0, 1) := by decide +kernel
theorem d_Mod_closeAll_1 : decode c_Mod_closeAll 1 = .ok (.getfield 192, 3) := by decide +kernel
theorem d_Mod_closeAll_4 : decode c_Mod_closeAll 4 = .ok (.iconst 1, 1) := by decide +kernel
theorem d_Mod_closeAll_5 : decode c_Mod_closeAll 5 = .ok (.isub, 1) := by decide +kernel
theorem d_Mod_closeAll_6 : decode c_Mod_closeAll 6 = .ok (.istore_n 1, 1) := by decide +kernel
theorem d_Mod_closeAll_7 : decode c_Mod_closeAll 7 = .ok (.iload_n 1, 1) := by decide +kernel
theorem d_Mod_closeAll_8 : decode c_Mod_closeAll 8 = .ok (.ifCond .lt 96, 3) := by decide +kernel
theorem d_Mod_closeAll_11 : decode c_Mod_closeAll 11 = .ok (.aload_n 0, 1) := by decide +kernel
theorem d_Mod_closeAll_12 : decode c_Mod_closeAll 12 = .ok (.getfield 63, 3) := by decide +kernel
theorem d_Mod_closeAll_15 : decode c_Mod_closeAll 15 = .ok (.iload_n 1, 1) := by decide +kernel
theorem d_Mod_closeAll_16 : decode c_Mod_closeAll 16 = .ok (.iaload, 1) := by decide +kernel
theorem d_Mod_closeAll_17 : decode c_Mod_closeAll 17 = .ok (.iconst 1, 1) := by decide +kernel
theorem d_Mod_closeAll_18 : decode c_Mod_closeAll 18 = .ok (.if_icmp .ne 15, 3) := by decide +kernel
theorem d_Mod_closeAll_21 : decode c_Mod_closeAll 21 = .ok (.aload_n 0, 1) := by decide +kernel
theorem d_Mod_closeAll_22 : decode c_Mod_closeAll 22 = .ok (.iload_n 1, 1) := by decide +kernel
theorem d_Mod_closeAll_23 : decode c_Mod_closeAll 23 = .ok (.invokevirtual 215, 3) := by decide +kernel
theorem d_Mod_closeAll_26 : decode c_Mod_closeAll 26 = .ok (.ifCond .ne 7, 3) := by decide +kernel
theorem d_Mod_closeAll_29 : decode c_Mod_closeAll 29 = .ok (.iconst 1, 1) := by decide +kernel
theorem d_Mod_closeAll_30 : decode c_Mod_closeAll 30 = .ok (.goto 4, 3) := by decide +kernel
theorem d_Mod_closeAll_33 : decode c_Mod_closeAll 33 = .ok (.iconst 0, 1) := by decide +kernel
theorem d_Mod_closeAll_34 : decode c_Mod_closeAll 34 = .ok (.istore_n 2, 1) := by decide +kernel
theorem d_Mod_closeAll_35 : decode c_Mod_closeAll 35 = .ok (.iload_n 1, 1) := by decide +kernel
theorem d_Mod_closeAll_36 : decode c_Mod_closeAll 36 = .ok (.iconst 1, 1) := by decide +kernel
theorem d_Mod_closeAll_37 : decode c_Mod_closeAll 37 = .ok (.iadd, 1) := by decide +kernel
theorem d_Mod_closeAll_38 : decode c_Mod_closeAll 38 = .ok (.istore_n 3, 1) := by decide +kernel
theorem d_Mod_closeAll_39 : decode c_Mod_closeAll 39 = .ok (.iload_n 3, 1) := by decide +kernel
theorem d_Mod_closeAll_40 : decode c_Mod_closeAll 40 = .ok (.aload_n 0, 1) := by decide +kernel
theorem d_Mod_closeAll_41 : decode c_Mod_closeAll 41 = .ok (.getfield 192, 3) := by decide +kernel
theorem d_Mod_closeAll_44 : decode c_Mod_closeAll 44 = .ok (.if_icmp .ge 38, 3) := by decide +kernel
theorem d_Mod_closeAll_47 : decode c_Mod_closeAll 47 = .ok (.iload_n 2, 1) := by decide +kernel
theorem d_Mod_closeAll_48 : decode c_Mod_closeAll 48 = .ok (.ifCond .eq 26, 3) := by decide +kernel
theorem d_Mod_closeAll_51 : decode c_Mod_closeAll 51 = .ok (.aload_n 0, 1) := by decide +kernel
theorem d_Mod_closeAll_52 : decode c_Mod_closeAll 52 = .ok (.getfield 63, 3) := by decide +kernel
theorem d_Mod_closeAll_55 : decode c_Mod_closeAll 55 = .ok (.iload_n 3, 1) := by decide +kernel
theorem d_Mod_closeAll_56 : decode c_Mod_closeAll 56 = .ok (.iaload, 1) := by decide +kernel
theorem d_Mod_closeAll_57 : decode c_Mod_closeAll 57 = .ok (.iconst 2, 1) := by decide +kernel
theorem d_Mod_closeAll_58 : decode c_Mod_closeAll 58 = .ok (.if_icmp .eq 12, 3) := by decide +kernel
theorem d_Mod_closeAll_61 : decode c_Mod_closeAll 61 = .ok (.aload_n 0, 1) := by decide +kernel
theorem d_Mod_closeAll_62 : decode c_Mod_closeAll 62 = .ok (.iload_n 3, 1) := by decide +kernel
theorem d_Mod_closeAll_63 : decode c_Mod_closeAll 63 = .ok (.iload_n 1, 1) := by decide +kernel
theorem d_Mod_closeAll_64 : decode c_Mod_closeAll 64 = .ok (.invokevirtual 211, 3) := by decide +kernel
theorem d_Mod_closeAll_67 : decode c_Mod_closeAll 67 = .ok (.ifCond .ne 7, 3) := by decide +kernel
theorem d_Mod_closeAll_70 : decode c_Mod_closeAll 70 = .ok (.iconst 1, 1) := by decide +kernel
theorem d_Mod_closeAll_71 : decode c_Mod_closeAll 71 = .ok (.goto 4, 3) := by decide +kernel
theorem d_Mod_closeAll_74 : decode c_Mod_closeAll 74 = .ok (.iconst 0, 1) := by decide +kernel
theorem d_Mod_closeAll_75 : decode c_Mod_closeAll 75 = .ok (.istore_n 2, 1) := by decide +kernel
theorem d_Mod_closeAll_76 : decode c_Mod_closeAll 76 = .ok (.iinc 3 1, 3) := by decide +kernel
theorem d_Mod_closeAll_79 : decode c_Mod_closeAll 79 = .ok (.goto (-40), 3) := by decide +kernel
theorem d_Mod_closeAll_82 : decode c_Mod_closeAll 82 = .ok (.iload_n 2, 1) := by decide +kernel
theorem d_Mod_closeAll_83 : decode c_Mod_closeAll 83 = .ok (.ifCond .eq 15, 3) := by decide +kernel
theorem d_Mod_closeAll_86 : decode c_Mod_closeAll 86 = .ok (.aload_n 0, 1) := by decide +kernel
theorem d_Mod_closeAll_87 : decode c_Mod_closeAll 87 = .ok (.getfield 63, 3) := by decide +kernel
theorem d_Mod_closeAll_90 : decode c_Mod_closeAll 90 = .ok (.iload_n 1, 1) := by decide +kernel
theorem d_Mod_closeAll_91 : decode c_Mod_closeAll 91 = .ok (.iconst 2, 1) := by decide +kernel
theorem d_Mod_closeAll_92 : decode c_Mod_closeAll 92 = .ok (.iastore, 1) := by decide +kernel
theorem d_Mod_closeAll_93 : decode c_Mod_closeAll 93 = .ok (.aload_n 0, 1) := by decide +kernel
theorem d_Mod_closeAll_94 : decode c_Mod_closeAll 94 = .ok (.iload_n 1, 1) := by decide +kernel
theorem d_Mod_closeAll_95 : decode c_Mod_closeAll 95 = .ok (.invokevirtual 218, 3) := by decide +kernel
theorem d_Mod_closeAll_98 : decode c_Mod_closeAll 98 = .ok (.iinc 1 (-1), 3) := by decide +kernel
theorem d_Mod_closeAll_101 : decode c_Mod_closeAll 101 = .ok (.goto (-94), 3) := by decide +kernel
theorem d_Mod_closeAll_104 : decode c_Mod_closeAll 104 = .ok (.aload_n 0, 1) := by decide +kernel
theorem d_Mod_closeAll_105 : decode c_Mod_closeAll 105 = .ok (.invokevirtual 185, 3) := by decide +kernel
theorem d_Mod_closeAll_108 : decode c_Mod_closeAll 108 = .ok (.return_, 1) := by decide +kernel
