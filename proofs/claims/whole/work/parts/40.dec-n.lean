/-! decode rows (by walk.py) -/
theorem d_Mod_give_0 : decode c_Mod_give 0 = .ok (.aload_n 0, 1) := by decide +kernel
theorem d_Mod_give_1 : decode c_Mod_give 1 = .ok (.getfield 7, 3) := by decide +kernel
theorem d_Mod_give_4 : decode c_Mod_give 4 = .ok (.iload_n 1, 1) := by decide +kernel
theorem d_Mod_give_5 : decode c_Mod_give 5 = .ok (.iload_n 2, 1) := by decide +kernel
theorem d_Mod_give_6 : decode c_Mod_give 6 = .ok (.iastore, 1) := by decide +kernel
theorem d_Mod_give_7 : decode c_Mod_give 7 = .ok (.aload_n 0, 1) := by decide +kernel
theorem d_Mod_give_8 : decode c_Mod_give 8 = .ok (.getfield 13, 3) := by decide +kernel
theorem d_Mod_give_11 : decode c_Mod_give 11 = .ok (.iload_n 1, 1) := by decide +kernel
theorem d_Mod_give_12 : decode c_Mod_give 12 = .ok (.iload_n 3, 1) := by decide +kernel
theorem d_Mod_give_13 : decode c_Mod_give 13 = .ok (.iastore, 1) := by decide +kernel
theorem d_Mod_give_14 : decode c_Mod_give 14 = .ok (.aload_n 0, 1) := by decide +kernel
theorem d_Mod_give_15 : decode c_Mod_give 15 = .ok (.dup, 1) := by decide +kernel
theorem d_Mod_give_16 : decode c_Mod_give 16 = .ok (.getfield 141, 3) := by decide +kernel
theorem d_Mod_give_19 : decode c_Mod_give 19 = .ok (.iconst 1, 1) := by decide +kernel
theorem d_Mod_give_20 : decode c_Mod_give 20 = .ok (.iadd, 1) := by decide +kernel
theorem d_Mod_give_21 : decode c_Mod_give 21 = .ok (.putfield 141, 3) := by decide +kernel
theorem d_Mod_give_24 : decode c_Mod_give 24 = .ok (.aload_n 0, 1) := by decide +kernel
theorem d_Mod_give_25 : decode c_Mod_give 25 = .ok (.getfield 16, 3) := by decide +kernel
theorem d_Mod_give_28 : decode c_Mod_give 28 = .ok (.iload_n 1, 1) := by decide +kernel
theorem d_Mod_give_29 : decode c_Mod_give 29 = .ok (.aload_n 0, 1) := by decide +kernel
theorem d_Mod_give_30 : decode c_Mod_give 30 = .ok (.getfield 141, 3) := by decide +kernel
theorem d_Mod_give_33 : decode c_Mod_give 33 = .ok (.iastore, 1) := by decide +kernel
theorem d_Mod_give_34 : decode c_Mod_give 34 = .ok (.aload_n 0, 1) := by decide +kernel
theorem d_Mod_give_35 : decode c_Mod_give 35 = .ok (.invokevirtual 144, 3) := by decide +kernel
theorem d_Mod_give_38 : decode c_Mod_give 38 = .ok (.return_, 1) := by decide +kernel
theorem d_Mod_one_0 : decode c_Mod_one 0 = .ok (.aload_n 0, 1) := by decide +kernel
theorem d_Mod_one_1 : decode c_Mod_one 1 = .ok (.getfield 7, 3) := by decide +kernel
theorem d_Mod_one_4 : decode c_Mod_one 4 = .ok (.iload_n 2, 1) := by decide +kernel
theorem d_Mod_one_5 : decode c_Mod_one 5 = .ok (.iaload, 1) := by decide +kernel
theorem d_Mod_one_6 : decode c_Mod_one 6 = .ok (.iconst 1, 1) := by decide +kernel
theorem d_Mod_one_7 : decode c_Mod_one 7 = .ok (.if_icmp .eq 7, 3) := by decide +kernel
theorem d_Mod_one_10 : decode c_Mod_one 10 = .ok (.iconst 1, 1) := by decide +kernel
theorem d_Mod_one_11 : decode c_Mod_one 11 = .ok (.goto 4, 3) := by decide +kernel
theorem d_Mod_one_14 : decode c_Mod_one 14 = .ok (.iconst 0, 1) := by decide +kernel
theorem d_Mod_one_15 : decode c_Mod_one 15 = .ok (.istore_n 3, 1) := by decide +kernel
theorem d_Mod_one_16 : decode c_Mod_one 16 = .ok (.aload_n 0, 1) := by decide +kernel
theorem d_Mod_one_17 : decode c_Mod_one 17 = .ok (.getfield 13, 3) := by decide +kernel
theorem d_Mod_one_20 : decode c_Mod_one 20 = .ok (.iload_n 2, 1) := by decide +kernel
theorem d_Mod_one_21 : decode c_Mod_one 21 = .ok (.iaload, 1) := by decide +kernel
theorem d_Mod_one_22 : decode c_Mod_one 22 = .ok (.istore 4, 2) := by decide +kernel
theorem d_Mod_one_24 : decode c_Mod_one 24 = .ok (.aload_n 0, 1) := by decide +kernel
theorem d_Mod_one_25 : decode c_Mod_one 25 = .ok (.getfield 19, 3) := by decide +kernel
theorem d_Mod_one_28 : decode c_Mod_one 28 = .ok (.iload_n 1, 1) := by decide +kernel
theorem d_Mod_one_29 : decode c_Mod_one 29 = .ok (.iaload, 1) := by decide +kernel
theorem d_Mod_one_30 : decode c_Mod_one 30 = .ok (.istore 5, 2) := by decide +kernel
theorem d_Mod_one_32 : decode c_Mod_one 32 = .ok (.iload 5, 2) := by decide +kernel
theorem d_Mod_one_34 : decode c_Mod_one 34 = .ok (.iconst 1, 1) := by decide +kernel
theorem d_Mod_one_35 : decode c_Mod_one 35 = .ok (.if_icmp .ne 10, 3) := by decide +kernel
theorem d_Mod_one_38 : decode c_Mod_one 38 = .ok (.iload_n 3, 1) := by decide +kernel
theorem d_Mod_one_39 : decode c_Mod_one 39 = .ok (.ifCond .ne 23, 3) := by decide +kernel
theorem d_Mod_one_42 : decode c_Mod_one 42 = .ok (.goto 13, 3) := by decide +kernel
theorem d_Mod_one_45 : decode c_Mod_one 45 = .ok (.iload_n 3, 1) := by decide +kernel
theorem d_Mod_one_46 : decode c_Mod_one 46 = .ok (.ifCond .eq 16, 3) := by decide +kernel
theorem d_Mod_one_49 : decode c_Mod_one 49 = .ok (.iload 5, 2) := by decide +kernel
theorem d_Mod_one_51 : decode c_Mod_one 51 = .ok (.iconst 2, 1) := by decide +kernel
theorem d_Mod_one_52 : decode c_Mod_one 52 = .ok (.if_icmp .eq 10, 3) := by decide +kernel
theorem d_Mod_one_55 : decode c_Mod_one 55 = .ok (.aload_n 0, 1) := by decide +kernel
theorem d_Mod_one_56 : decode c_Mod_one 56 = .ok (.iload_n 1, 1) := by decide +kernel
theorem d_Mod_one_57 : decode c_Mod_one 57 = .ok (.iload_n 2, 1) := by decide +kernel
theorem d_Mod_one_58 : decode c_Mod_one 58 = .ok (.invokevirtual 151, 3) := by decide +kernel
theorem d_Mod_one_61 : decode c_Mod_one 61 = .ok (.return_, 1) := by decide +kernel
theorem d_Mod_one_62 : decode c_Mod_one 62 = .ok (.aload_n 0, 1) := by decide +kernel
theorem d_Mod_one_63 : decode c_Mod_one 63 = .ok (.aload_n 0, 1) := by decide +kernel
theorem d_Mod_one_64 : decode c_Mod_one 64 = .ok (.getfield 22, 3) := by decide +kernel
theorem d_Mod_one_67 : decode c_Mod_one 67 = .ok (.iload_n 1, 1) := by decide +kernel
theorem d_Mod_one_68 : decode c_Mod_one 68 = .ok (.iaload, 1) := by decide +kernel
theorem d_Mod_one_69 : decode c_Mod_one 69 = .ok (.aload_n 0, 1) := by decide +kernel
theorem d_Mod_one_70 : decode c_Mod_one 70 = .ok (.getfield 25, 3) := by decide +kernel
theorem d_Mod_one_73 : decode c_Mod_one 73 = .ok (.iload_n 1, 1) := by decide +kernel
theorem d_Mod_one_74 : decode c_Mod_one 74 = .ok (.iaload, 1) := by decide +kernel
theorem d_Mod_one_75 : decode c_Mod_one 75 = .ok (.iload 5, 2) := by decide +kernel
theorem d_Mod_one_77 : decode c_Mod_one 77 = .ok (.iconst 2, 1) := by decide +kernel
theorem d_Mod_one_78 : decode c_Mod_one 78 = .ok (.if_icmp .ne 14, 3) := by decide +kernel
theorem d_Mod_one_81 : decode c_Mod_one 81 = .ok (.iload_n 3, 1) := by decide +kernel
theorem d_Mod_one_82 : decode c_Mod_one 82 = .ok (.ifCond .eq 10, 3) := by decide +kernel
theorem d_Mod_one_85 : decode c_Mod_one 85 = .ok (.iconst (-1), 1) := by decide +kernel
theorem d_Mod_one_86 : decode c_Mod_one 86 = .ok (.iload 4, 2) := by decide +kernel
theorem d_Mod_one_88 : decode c_Mod_one 88 = .ok (.isub, 1) := by decide +kernel
theorem d_Mod_one_89 : decode c_Mod_one 89 = .ok (.goto 5, 3) := by decide +kernel
theorem d_Mod_one_92 : decode c_Mod_one 92 = .ok (.iload 4, 2) := by decide +kernel
theorem d_Mod_one_94 : decode c_Mod_one 94 = .ok (.invokevirtual 155, 3) := by decide +kernel
theorem d_Mod_one_97 : decode c_Mod_one 97 = .ok (.iload 5, 2) := by decide +kernel
theorem d_Mod_one_99 : decode c_Mod_one 99 = .ok (.iconst 3, 1) := by decide +kernel
theorem d_Mod_one_100 : decode c_Mod_one 100 = .ok (.if_icmp .ne 39, 3) := by decide +kernel
theorem d_Mod_one_103 : decode c_Mod_one 103 = .ok (.aload_n 0, 1) := by decide +kernel
theorem d_Mod_one_104 : decode c_Mod_one 104 = .ok (.iload_n 1, 1) := by decide +kernel
theorem d_Mod_one_105 : decode c_Mod_one 105 = .ok (.aload_n 0, 1) := by decide +kernel
theorem d_Mod_one_106 : decode c_Mod_one 106 = .ok (.getfield 115, 3) := by decide +kernel
theorem d_Mod_one_109 : decode c_Mod_one 109 = .ok (.ifCond .le 7, 3) := by decide +kernel
theorem d_Mod_one_112 : decode c_Mod_one 112 = .ok (.iconst 3, 1) := by decide +kernel
theorem d_Mod_one_113 : decode c_Mod_one 113 = .ok (.goto 4, 3) := by decide +kernel
theorem d_Mod_one_116 : decode c_Mod_one 116 = .ok (.iconst 1, 1) := by decide +kernel
theorem d_Mod_one_117 : decode c_Mod_one 117 = .ok (.aload_n 0, 1) := by decide +kernel
theorem d_Mod_one_118 : decode c_Mod_one 118 = .ok (.getfield 115, 3) := by decide +kernel
theorem d_Mod_one_121 : decode c_Mod_one 121 = .ok (.ifCond .le 10, 3) := by decide +kernel
theorem d_Mod_one_124 : decode c_Mod_one 124 = .ok (.aload_n 0, 1) := by decide +kernel
theorem d_Mod_one_125 : decode c_Mod_one 125 = .ok (.getfield 115, 3) := by decide +kernel
theorem d_Mod_one_128 : decode c_Mod_one 128 = .ok (.goto 5, 3) := by decide +kernel
theorem d_Mod_one_131 : decode c_Mod_one 131 = .ok (.iload 4, 2) := by decide +kernel
theorem d_Mod_one_133 : decode c_Mod_one 133 = .ok (.invokevirtual 147, 3) := by decide +kernel
theorem d_Mod_one_136 : decode c_Mod_one 136 = .ok (.goto 60, 3) := by decide +kernel
theorem d_Mod_one_139 : decode c_Mod_one 139 = .ok (.iload 5, 2) := by decide +kernel
theorem d_Mod_one_141 : decode c_Mod_one 141 = .ok (.iconst 4, 1) := by decide +kernel
theorem d_Mod_one_142 : decode c_Mod_one 142 = .ok (.if_icmp .ne 10, 3) := by decide +kernel
theorem d_Mod_one_145 : decode c_Mod_one 145 = .ok (.aload_n 0, 1) := by decide +kernel
theorem d_Mod_one_146 : decode c_Mod_one 146 = .ok (.getfield 115, 3) := by decide +kernel
theorem d_Mod_one_149 : decode c_Mod_one 149 = .ok (.ifCond .le 11, 3) := by decide +kernel
theorem d_Mod_one_152 : decode c_Mod_one 152 = .ok (.aload_n 0, 1) := by decide +kernel
theorem d_Mod_one_153 : decode c_Mod_one 153 = .ok (.iload_n 1, 1) := by decide +kernel
theorem d_Mod_one_154 : decode c_Mod_one 154 = .ok (.invokevirtual 158, 3) := by decide +kernel
theorem d_Mod_one_157 : decode c_Mod_one 157 = .ok (.goto 39, 3) := by decide +kernel
theorem d_Mod_one_160 : decode c_Mod_one 160 = .ok (.aload_n 0, 1) := by decide +kernel
theorem d_Mod_one_161 : decode c_Mod_one 161 = .ok (.aload_n 0, 1) := by decide +kernel
theorem d_Mod_one_162 : decode c_Mod_one 162 = .ok (.getfield 118, 3) := by decide +kernel
theorem d_Mod_one_165 : decode c_Mod_one 165 = .ok (.invokevirtual 162, 3) := by decide +kernel
theorem d_Mod_one_168 : decode c_Mod_one 168 = .ok (.ifCond .ne 14, 3) := by decide +kernel
theorem d_Mod_one_171 : decode c_Mod_one 171 = .ok (.aload_n 0, 1) := by decide +kernel
theorem d_Mod_one_172 : decode c_Mod_one 172 = .ok (.iload_n 1, 1) := by decide +kernel
theorem d_Mod_one_173 : decode c_Mod_one 173 = .ok (.iconst 3, 1) := by decide +kernel
theorem d_Mod_one_174 : decode c_Mod_one 174 = .ok (.bipush 8, 2) := by decide +kernel
theorem d_Mod_one_176 : decode c_Mod_one 176 = .ok (.invokevirtual 147, 3) := by decide +kernel
theorem d_Mod_one_179 : decode c_Mod_one 179 = .ok (.goto 17, 3) := by decide +kernel
theorem d_Mod_one_182 : decode c_Mod_one 182 = .ok (.aload_n 0, 1) := by decide +kernel
theorem d_Mod_one_183 : decode c_Mod_one 183 = .ok (.getfield 42, 3) := by decide +kernel
theorem d_Mod_one_186 : decode c_Mod_one 186 = .ok (.iload_n 1, 1) := by decide +kernel
theorem d_Mod_one_187 : decode c_Mod_one 187 = .ok (.aload_n 0, 1) := by decide +kernel
theorem d_Mod_one_188 : decode c_Mod_one 188 = .ok (.getfield 118, 3) := by decide +kernel
theorem d_Mod_one_191 : decode c_Mod_one 191 = .ok (.iastore, 1) := by decide +kernel
theorem d_Mod_one_192 : decode c_Mod_one 192 = .ok (.aload_n 0, 1) := by decide +kernel
theorem d_Mod_one_193 : decode c_Mod_one 193 = .ok (.invokevirtual 144, 3) := by decide +kernel
theorem d_Mod_one_196 : decode c_Mod_one 196 = .ok (.return_, 1) := by decide +kernel
theorem d_Mod_apply_0 : decode c_Mod_apply 0 = .ok (.aload_n 0, 1) := by decide +kernel
theorem d_Mod_apply_1 : decode c_Mod_apply 1 = .ok (.iload_n 1, 1) := by decide +kernel
theorem d_Mod_apply_2 : decode c_Mod_apply 2 = .ok (.iconst 2, 1) := by decide +kernel
theorem d_Mod_apply_3 : decode c_Mod_apply 3 = .ok (.if_icmp .ne 8, 3) := by decide +kernel
theorem d_Mod_apply_6 : decode c_Mod_apply 6 = .ok (.iload_n 3, 1) := by decide +kernel
theorem d_Mod_apply_7 : decode c_Mod_apply 7 = .ok (.iload_n 2, 1) := by decide +kernel
theorem d_Mod_apply_8 : decode c_Mod_apply 8 = .ok (.if_icmp .eq 8, 3) := by decide +kernel
theorem d_Mod_apply_11 : decode c_Mod_apply 11 = .ok (.iload_n 1, 1) := by decide +kernel
theorem d_Mod_apply_12 : decode c_Mod_apply 12 = .ok (.iconst 3, 1) := by decide +kernel
theorem d_Mod_apply_13 : decode c_Mod_apply 13 = .ok (.if_icmp .ne 12, 3) := by decide +kernel
theorem d_Mod_apply_16 : decode c_Mod_apply 16 = .ok (.iconst 1, 1) := by decide +kernel
theorem d_Mod_apply_17 : decode c_Mod_apply 17 = .ok (.iload_n 2, 1) := by decide +kernel
theorem d_Mod_apply_18 : decode c_Mod_apply 18 = .ok (.bipush 7, 2) := by decide +kernel
theorem d_Mod_apply_20 : decode c_Mod_apply 20 = .ok (.iand, 1) := by decide +kernel
theorem d_Mod_apply_21 : decode c_Mod_apply 21 = .ok (.iadd, 1) := by decide +kernel
theorem d_Mod_apply_22 : decode c_Mod_apply 22 = .ok (.goto 18, 3) := by decide +kernel
theorem d_Mod_apply_25 : decode c_Mod_apply 25 = .ok (.iload_n 1, 1) := by decide +kernel
theorem d_Mod_apply_26 : decode c_Mod_apply 26 = .ok (.iconst 5, 1) := by decide +kernel
theorem d_Mod_apply_27 : decode c_Mod_apply 27 = .ok (.if_icmp .ne 12, 3) := by decide +kernel
theorem d_Mod_apply_30 : decode c_Mod_apply 30 = .ok (.iload_n 2, 1) := by decide +kernel
theorem d_Mod_apply_31 : decode c_Mod_apply 31 = .ok (.ifCond .ne 8, 3) := by decide +kernel
theorem d_Mod_apply_34 : decode c_Mod_apply 34 = .ok (.bipush 9, 2) := by decide +kernel
theorem d_Mod_apply_36 : decode c_Mod_apply 36 = .ok (.goto 4, 3) := by decide +kernel
theorem d_Mod_apply_39 : decode c_Mod_apply 39 = .ok (.iconst 0, 1) := by decide +kernel
theorem d_Mod_apply_40 : decode c_Mod_apply 40 = .ok (.putfield 115, 3) := by decide +kernel
theorem d_Mod_apply_43 : decode c_Mod_apply 43 = .ok (.aload_n 0, 1) := by decide +kernel
theorem d_Mod_apply_44 : decode c_Mod_apply 44 = .ok (.iload_n 1, 1) := by decide +kernel
theorem d_Mod_apply_45 : decode c_Mod_apply 45 = .ok (.ifCond .ne 9, 3) := by decide +kernel
theorem d_Mod_apply_48 : decode c_Mod_apply 48 = .ok (.iload_n 3, 1) := by decide +kernel
theorem d_Mod_apply_49 : decode c_Mod_apply 49 = .ok (.iload_n 2, 1) := by decide +kernel
theorem d_Mod_apply_50 : decode c_Mod_apply 50 = .ok (.iadd, 1) := by decide +kernel
theorem d_Mod_apply_51 : decode c_Mod_apply 51 = .ok (.goto 56, 3) := by decide +kernel
theorem d_Mod_apply_54 : decode c_Mod_apply 54 = .ok (.iload_n 1, 1) := by decide +kernel
theorem d_Mod_apply_55 : decode c_Mod_apply 55 = .ok (.iconst 1, 1) := by decide +kernel
theorem d_Mod_apply_56 : decode c_Mod_apply 56 = .ok (.if_icmp .ne 9, 3) := by decide +kernel
theorem d_Mod_apply_59 : decode c_Mod_apply 59 = .ok (.iload_n 3, 1) := by decide +kernel
theorem d_Mod_apply_60 : decode c_Mod_apply 60 = .ok (.iload_n 2, 1) := by decide +kernel
theorem d_Mod_apply_61 : decode c_Mod_apply 61 = .ok (.imul, 1) := by decide +kernel
theorem d_Mod_apply_62 : decode c_Mod_apply 62 = .ok (.goto 45, 3) := by decide +kernel
theorem d_Mod_apply_65 : decode c_Mod_apply 65 = .ok (.iload_n 1, 1) := by decide +kernel
theorem d_Mod_apply_66 : decode c_Mod_apply 66 = .ok (.iconst 2, 1) := by decide +kernel
theorem d_Mod_apply_67 : decode c_Mod_apply 67 = .ok (.if_icmp .ne 7, 3) := by decide +kernel
theorem d_Mod_apply_70 : decode c_Mod_apply 70 = .ok (.iload_n 3, 1) := by decide +kernel
theorem d_Mod_apply_71 : decode c_Mod_apply 71 = .ok (.goto 36, 3) := by decide +kernel
theorem d_Mod_apply_74 : decode c_Mod_apply 74 = .ok (.iload_n 1, 1) := by decide +kernel
theorem d_Mod_apply_75 : decode c_Mod_apply 75 = .ok (.iconst 4, 1) := by decide +kernel
theorem d_Mod_apply_76 : decode c_Mod_apply 76 = .ok (.if_icmp .ne 7, 3) := by decide +kernel
theorem d_Mod_apply_79 : decode c_Mod_apply 79 = .ok (.iload_n 2, 1) := by decide +kernel
theorem d_Mod_apply_80 : decode c_Mod_apply 80 = .ok (.goto 27, 3) := by decide +kernel
theorem d_Mod_apply_83 : decode c_Mod_apply 83 = .ok (.iload_n 1, 1) := by decide +kernel
theorem d_Mod_apply_84 : decode c_Mod_apply 84 = .ok (.iconst 5, 1) := by decide +kernel
theorem d_Mod_apply_85 : decode c_Mod_apply 85 = .ok (.if_icmp .ne 21, 3) := by decide +kernel
theorem d_Mod_apply_88 : decode c_Mod_apply 88 = .ok (.iload_n 2, 1) := by decide +kernel
theorem d_Mod_apply_89 : decode c_Mod_apply 89 = .ok (.ifCond .eq 17, 3) := by decide +kernel
theorem d_Mod_apply_92 : decode c_Mod_apply 92 = .ok (.iload_n 3, 1) := by decide +kernel
theorem d_Mod_apply_93 : decode c_Mod_apply 93 = .ok (.iload_n 2, 1) := by decide +kernel
theorem d_Mod_apply_94 : decode c_Mod_apply 94 = .ok (.ifCond .ne 7, 3) := by decide +kernel
theorem d_Mod_apply_97 : decode c_Mod_apply 97 = .ok (.iconst 1, 1) := by decide +kernel
theorem d_Mod_apply_98 : decode c_Mod_apply 98 = .ok (.goto 4, 3) := by decide +kernel
theorem d_Mod_apply_101 : decode c_Mod_apply 101 = .ok (.iload_n 2, 1) := by decide +kernel
theorem d_Mod_apply_102 : decode c_Mod_apply 102 = .ok (.idiv, 1) := by decide +kernel
theorem d_Mod_apply_103 : decode c_Mod_apply 103 = .ok (.goto 4, 3) := by decide +kernel
theorem d_Mod_apply_106 : decode c_Mod_apply 106 = .ok (.iconst 0, 1) := by decide +kernel
theorem d_Mod_apply_107 : decode c_Mod_apply 107 = .ok (.putfield 118, 3) := by decide +kernel
theorem d_Mod_apply_110 : decode c_Mod_apply 110 = .ok (.return_, 1) := by decide +kernel
theorem d_Mod_giveMade_0 : decode c_Mod_giveMade 0 = .ok (.aload_n 0, 1) := by decide +kernel
theorem d_Mod_giveMade_1 : decode c_Mod_giveMade 1 = .ok (.iload_n 1, 1) := by decide +kernel
theorem d_Mod_giveMade_2 : decode c_Mod_giveMade 2 = .ok (.aload_n 0, 1) := by decide +kernel
theorem d_Mod_giveMade_3 : decode c_Mod_giveMade 3 = .ok (.getfield 115, 3) := by decide +kernel
theorem d_Mod_giveMade_6 : decode c_Mod_giveMade 6 = .ok (.ifCond .le 7, 3) := by decide +kernel
theorem d_Mod_giveMade_9 : decode c_Mod_giveMade 9 = .ok (.iconst 3, 1) := by decide +kernel
theorem d_Mod_giveMade_10 : decode c_Mod_giveMade 10 = .ok (.goto 4, 3) := by decide +kernel
theorem d_Mod_giveMade_13 : decode c_Mod_giveMade 13 = .ok (.iconst 1, 1) := by decide +kernel
theorem d_Mod_giveMade_14 : decode c_Mod_giveMade 14 = .ok (.aload_n 0, 1) := by decide +kernel
theorem d_Mod_giveMade_15 : decode c_Mod_giveMade 15 = .ok (.getfield 115, 3) := by decide +kernel
theorem d_Mod_giveMade_18 : decode c_Mod_giveMade 18 = .ok (.ifCond .le 10, 3) := by decide +kernel
theorem d_Mod_giveMade_21 : decode c_Mod_giveMade 21 = .ok (.aload_n 0, 1) := by decide +kernel
theorem d_Mod_giveMade_22 : decode c_Mod_giveMade 22 = .ok (.getfield 115, 3) := by decide +kernel
theorem d_Mod_giveMade_25 : decode c_Mod_giveMade 25 = .ok (.goto 7, 3) := by decide +kernel
theorem d_Mod_giveMade_28 : decode c_Mod_giveMade 28 = .ok (.aload_n 0, 1) := by decide +kernel
theorem d_Mod_giveMade_29 : decode c_Mod_giveMade 29 = .ok (.getfield 118, 3) := by decide +kernel
theorem d_Mod_giveMade_32 : decode c_Mod_giveMade 32 = .ok (.invokevirtual 147, 3) := by decide +kernel
theorem d_Mod_giveMade_35 : decode c_Mod_giveMade 35 = .ok (.return_, 1) := by decide +kernel
theorem d_Mod_all_0 : decode c_Mod_all 0 = .ok (.iconst 0, 1) := by decide +kernel
theorem d_Mod_all_1 : decode c_Mod_all 1 = .ok (.istore_n 2, 1) := by decide +kernel
theorem d_Mod_all_2 : decode c_Mod_all 2 = .ok (.iconst 0, 1) := by decide +kernel
theorem d_Mod_all_3 : decode c_Mod_all 3 = .ok (.istore_n 3, 1) := by decide +kernel
theorem d_Mod_all_4 : decode c_Mod_all 4 = .ok (.iload_n 3, 1) := by decide +kernel
theorem d_Mod_all_5 : decode c_Mod_all 5 = .ok (.aload_n 0, 1) := by decide +kernel
theorem d_Mod_all_6 : decode c_Mod_all 6 = .ok (.getfield 121, 3) := by decide +kernel
theorem d_Mod_all_9 : decode c_Mod_all 9 = .ok (.if_icmp .ge 50, 3) := by decide +kernel
theorem d_Mod_all_12 : decode c_Mod_all 12 = .ok (.aload_n 0, 1) := by decide +kernel
theorem d_Mod_all_13 : decode c_Mod_all 13 = .ok (.getfield 34, 3) := by decide +kernel
theorem d_Mod_all_16 : decode c_Mod_all 16 = .ok (.iload_n 1, 1) := by decide +kernel
theorem d_Mod_all_17 : decode c_Mod_all 17 = .ok (.laload, 1) := by decide +kernel
theorem d_Mod_all_18 : decode c_Mod_all 18 = .ok (.iload_n 3, 1) := by decide +kernel
theorem d_Mod_all_19 : decode c_Mod_all 19 = .ok (.lshr, 1) := by decide +kernel
theorem d_Mod_all_20 : decode c_Mod_all 20 = .ok (.lconst 1, 1) := by decide +kernel
theorem d_Mod_all_21 : decode c_Mod_all 21 = .ok (.land, 1) := by decide +kernel
theorem d_Mod_all_22 : decode c_Mod_all 22 = .ok (.lconst 1, 1) := by decide +kernel
theorem d_Mod_all_23 : decode c_Mod_all 23 = .ok (.lcmp, 1) := by decide +kernel
theorem d_Mod_all_24 : decode c_Mod_all 24 = .ok (.ifCond .ne 29, 3) := by decide +kernel
theorem d_Mod_all_27 : decode c_Mod_all 27 = .ok (.aload_n 0, 1) := by decide +kernel
theorem d_Mod_all_28 : decode c_Mod_all 28 = .ok (.getfield 7, 3) := by decide +kernel
theorem d_Mod_all_31 : decode c_Mod_all 31 = .ok (.iload_n 3, 1) := by decide +kernel
theorem d_Mod_all_32 : decode c_Mod_all 32 = .ok (.iaload, 1) := by decide +kernel
theorem d_Mod_all_33 : decode c_Mod_all 33 = .ok (.iconst 1, 1) := by decide +kernel
theorem d_Mod_all_34 : decode c_Mod_all 34 = .ok (.if_icmp .eq 10, 3) := by decide +kernel
theorem d_Mod_all_37 : decode c_Mod_all 37 = .ok (.aload_n 0, 1) := by decide +kernel
theorem d_Mod_all_38 : decode c_Mod_all 38 = .ok (.iload_n 1, 1) := by decide +kernel
theorem d_Mod_all_39 : decode c_Mod_all 39 = .ok (.iload_n 3, 1) := by decide +kernel
theorem d_Mod_all_40 : decode c_Mod_all 40 = .ok (.invokevirtual 151, 3) := by decide +kernel
theorem d_Mod_all_43 : decode c_Mod_all 43 = .ok (.return_, 1) := by decide +kernel
theorem d_Mod_all_44 : decode c_Mod_all 44 = .ok (.iload_n 2, 1) := by decide +kernel
theorem d_Mod_all_45 : decode c_Mod_all 45 = .ok (.aload_n 0, 1) := by decide +kernel
theorem d_Mod_all_46 : decode c_Mod_all 46 = .ok (.getfield 13, 3) := by decide +kernel
theorem d_Mod_all_49 : decode c_Mod_all 49 = .ok (.iload_n 3, 1) := by decide +kernel
theorem d_Mod_all_50 : decode c_Mod_all 50 = .ok (.iaload, 1) := by decide +kernel
theorem d_Mod_all_51 : decode c_Mod_all 51 = .ok (.iadd, 1) := by decide +kernel
theorem d_Mod_all_52 : decode c_Mod_all 52 = .ok (.istore_n 2, 1) := by decide +kernel
theorem d_Mod_all_53 : decode c_Mod_all 53 = .ok (.iinc 3 1, 3) := by decide +kernel
theorem d_Mod_all_56 : decode c_Mod_all 56 = .ok (.goto (-52), 3) := by decide +kernel
theorem d_Mod_all_59 : decode c_Mod_all 59 = .ok (.aload_n 0, 1) := by decide +kernel
theorem d_Mod_all_60 : decode c_Mod_all 60 = .ok (.iload_n 1, 1) := by decide +kernel
theorem d_Mod_all_61 : decode c_Mod_all 61 = .ok (.iconst 1, 1) := by decide +kernel
theorem d_Mod_all_62 : decode c_Mod_all 62 = .ok (.iload_n 2, 1) := by decide +kernel
theorem d_Mod_all_63 : decode c_Mod_all 63 = .ok (.invokevirtual 147, 3) := by decide +kernel
theorem d_Mod_all_66 : decode c_Mod_all 66 = .ok (.return_, 1) := by decide +kernel
theorem d_Mod_earliest_0 : decode c_Mod_earliest 0 = .ok (.iconst (-1), 1) := by decide +kernel
theorem d_Mod_earliest_1 : decode c_Mod_earliest 1 = .ok (.istore_n 2, 1) := by decide +kernel
theorem d_Mod_earliest_2 : decode c_Mod_earliest 2 = .ok (.iconst 0, 1) := by decide +kernel
theorem d_Mod_earliest_3 : decode c_Mod_earliest 3 = .ok (.istore_n 3, 1) := by decide +kernel
theorem d_Mod_earliest_4 : decode c_Mod_earliest 4 = .ok (.iload_n 3, 1) := by decide +kernel
theorem d_Mod_earliest_5 : decode c_Mod_earliest 5 = .ok (.aload_n 0, 1) := by decide +kernel
theorem d_Mod_earliest_6 : decode c_Mod_earliest 6 = .ok (.getfield 121, 3) := by decide +kernel
theorem d_Mod_earliest_9 : decode c_Mod_earliest 9 = .ok (.if_icmp .ge 61, 3) := by decide +kernel
theorem d_Mod_earliest_12 : decode c_Mod_earliest 12 = .ok (.aload_n 0, 1) := by decide +kernel
theorem d_Mod_earliest_13 : decode c_Mod_earliest 13 = .ok (.getfield 34, 3) := by decide +kernel
theorem d_Mod_earliest_16 : decode c_Mod_earliest 16 = .ok (.iload_n 1, 1) := by decide +kernel
theorem d_Mod_earliest_17 : decode c_Mod_earliest 17 = .ok (.laload, 1) := by decide +kernel
theorem d_Mod_earliest_18 : decode c_Mod_earliest 18 = .ok (.iload_n 3, 1) := by decide +kernel
theorem d_Mod_earliest_19 : decode c_Mod_earliest 19 = .ok (.lshr, 1) := by decide +kernel
theorem d_Mod_earliest_20 : decode c_Mod_earliest 20 = .ok (.lconst 1, 1) := by decide +kernel
theorem d_Mod_earliest_21 : decode c_Mod_earliest 21 = .ok (.land, 1) := by decide +kernel
theorem d_Mod_earliest_22 : decode c_Mod_earliest 22 = .ok (.lconst 1, 1) := by decide +kernel
theorem d_Mod_earliest_23 : decode c_Mod_earliest 23 = .ok (.lcmp, 1) := by decide +kernel
theorem d_Mod_earliest_24 : decode c_Mod_earliest 24 = .ok (.ifCond .ne 40, 3) := by decide +kernel
theorem d_Mod_earliest_27 : decode c_Mod_earliest 27 = .ok (.aload_n 0, 1) := by decide +kernel
theorem d_Mod_earliest_28 : decode c_Mod_earliest 28 = .ok (.iload_n 3, 1) := by decide +kernel
theorem d_Mod_earliest_29 : decode c_Mod_earliest 29 = .ok (.invokevirtual 124, 3) := by decide +kernel
theorem d_Mod_earliest_32 : decode c_Mod_earliest 32 = .ok (.ifCond .eq 32, 3) := by decide +kernel
theorem d_Mod_earliest_35 : decode c_Mod_earliest 35 = .ok (.iload_n 2, 1) := by decide +kernel
theorem d_Mod_earliest_36 : decode c_Mod_earliest 36 = .ok (.ifCond .lt 26, 3) := by decide +kernel
theorem d_Mod_earliest_39 : decode c_Mod_earliest 39 = .ok (.aload_n 0, 1) := by decide +kernel
theorem d_Mod_earliest_40 : decode c_Mod_earliest 40 = .ok (.getfield 16, 3) := by decide +kernel
theorem d_Mod_earliest_43 : decode c_Mod_earliest 43 = .ok (.iload_n 3, 1) := by decide +kernel
theorem d_Mod_earliest_44 : decode c_Mod_earliest 44 = .ok (.iaload, 1) := by decide +kernel
theorem d_Mod_earliest_45 : decode c_Mod_earliest 45 = .ok (.aload_n 0, 1) := by decide +kernel
theorem d_Mod_earliest_46 : decode c_Mod_earliest 46 = .ok (.getfield 16, 3) := by decide +kernel
theorem d_Mod_earliest_49 : decode c_Mod_earliest 49 = .ok (.iload_n 2, 1) := by decide +kernel
theorem d_Mod_earliest_50 : decode c_Mod_earliest 50 = .ok (.ifCond .ge 7, 3) := by decide +kernel
theorem d_Mod_earliest_53 : decode c_Mod_earliest 53 = .ok (.iconst 0, 1) := by decide +kernel
theorem d_Mod_earliest_54 : decode c_Mod_earliest 54 = .ok (.goto 4, 3) := by decide +kernel
theorem d_Mod_earliest_57 : decode c_Mod_earliest 57 = .ok (.iload_n 2, 1) := by decide +kernel
theorem d_Mod_earliest_58 : decode c_Mod_earliest 58 = .ok (.iaload, 1) := by decide +kernel
theorem d_Mod_earliest_59 : decode c_Mod_earliest 59 = .ok (.if_icmp .ge 5, 3) := by decide +kernel
theorem d_Mod_earliest_62 : decode c_Mod_earliest 62 = .ok (.iload_n 3, 1) := by decide +kernel
theorem d_Mod_earliest_63 : decode c_Mod_earliest 63 = .ok (.istore_n 2, 1) := by decide +kernel
theorem d_Mod_earliest_64 : decode c_Mod_earliest 64 = .ok (.iinc 3 1, 3) := by decide +kernel
theorem d_Mod_earliest_67 : decode c_Mod_earliest 67 = .ok (.goto (-63), 3) := by decide +kernel
theorem d_Mod_earliest_70 : decode c_Mod_earliest 70 = .ok (.iload_n 2, 1) := by decide +kernel
theorem d_Mod_earliest_71 : decode c_Mod_earliest 71 = .ok (.ireturn, 1) := by decide +kernel
theorem d_Mod_both_0 : decode c_Mod_both 0 = .ok (.aload_n 0, 1) := by decide +kernel
theorem d_Mod_both_1 : decode c_Mod_both 1 = .ok (.iload_n 3, 1) := by decide +kernel
theorem d_Mod_both_2 : decode c_Mod_both 2 = .ok (.iconst 5, 1) := by decide +kernel
theorem d_Mod_both_3 : decode c_Mod_both 3 = .ok (.if_icmp .lt 36, 3) := by decide +kernel
theorem d_Mod_both_6 : decode c_Mod_both 6 = .ok (.iload_n 3, 1) := by decide +kernel
theorem d_Mod_both_7 : decode c_Mod_both 7 = .ok (.bipush 6, 2) := by decide +kernel
theorem d_Mod_both_9 : decode c_Mod_both 9 = .ok (.if_icmp .gt 30, 3) := by decide +kernel
theorem d_Mod_both_12 : decode c_Mod_both 12 = .ok (.iload 4, 2) := by decide +kernel
theorem d_Mod_both_14 : decode c_Mod_both 14 = .ok (.ifCond .lt 25, 3) := by decide +kernel
theorem d_Mod_both_17 : decode c_Mod_both 17 = .ok (.iload 4, 2) := by decide +kernel
theorem d_Mod_both_19 : decode c_Mod_both 19 = .ok (.iconst 5, 1) := by decide +kernel
theorem d_Mod_both_20 : decode c_Mod_both 20 = .ok (.if_icmp .gt 19, 3) := by decide +kernel
theorem d_Mod_both_23 : decode c_Mod_both 23 = .ok (.aload_n 0, 1) := by decide +kernel
theorem d_Mod_both_24 : decode c_Mod_both 24 = .ok (.iload_n 1, 1) := by decide +kernel
theorem d_Mod_both_25 : decode c_Mod_both 25 = .ok (.invokevirtual 162, 3) := by decide +kernel
theorem d_Mod_both_28 : decode c_Mod_both 28 = .ok (.ifCond .eq 11, 3) := by decide +kernel
theorem d_Mod_both_31 : decode c_Mod_both 31 = .ok (.aload_n 0, 1) := by decide +kernel
theorem d_Mod_both_32 : decode c_Mod_both 32 = .ok (.iload_n 2, 1) := by decide +kernel
theorem d_Mod_both_33 : decode c_Mod_both 33 = .ok (.invokevirtual 162, 3) := by decide +kernel
theorem d_Mod_both_36 : decode c_Mod_both 36 = .ok (.ifCond .ne 7, 3) := by decide +kernel
theorem d_Mod_both_39 : decode c_Mod_both 39 = .ok (.iconst 1, 1) := by decide +kernel
theorem d_Mod_both_40 : decode c_Mod_both 40 = .ok (.goto 17, 3) := by decide +kernel
theorem d_Mod_both_43 : decode c_Mod_both 43 = .ok (.aload_n 0, 1) := by decide +kernel
theorem d_Mod_both_44 : decode c_Mod_both 44 = .ok (.getfield 121, 3) := by decide +kernel
theorem d_Mod_both_47 : decode c_Mod_both 47 = .ok (.bipush 48, 2) := by decide +kernel
theorem d_Mod_both_49 : decode c_Mod_both 49 = .ok (.if_icmp .ne 7, 3) := by decide +kernel
theorem d_Mod_both_52 : decode c_Mod_both 52 = .ok (.iconst 2, 1) := by decide +kernel
theorem d_Mod_both_53 : decode c_Mod_both 53 = .ok (.goto 4, 3) := by decide +kernel
theorem d_Mod_both_56 : decode c_Mod_both 56 = .ok (.iconst 0, 1) := by decide +kernel
theorem d_Mod_both_57 : decode c_Mod_both 57 = .ok (.putfield 111, 3) := by decide +kernel
theorem d_Mod_both_60 : decode c_Mod_both 60 = .ok (.aload_n 0, 1) := by decide +kernel
theorem d_Mod_both_61 : decode c_Mod_both 61 = .ok (.getfield 111, 3) := by decide +kernel
theorem d_Mod_both_64 : decode c_Mod_both 64 = .ok (.ifCond .le 5, 3) := by decide +kernel
theorem d_Mod_both_67 : decode c_Mod_both 67 = .ok (.iconst 0, 1) := by decide +kernel
theorem d_Mod_both_68 : decode c_Mod_both 68 = .ok (.ireturn, 1) := by decide +kernel
theorem d_Mod_both_69 : decode c_Mod_both 69 = .ok (.aload_n 0, 1) := by decide +kernel
theorem d_Mod_both_70 : decode c_Mod_both 70 = .ok (.iload_n 3, 1) := by decide +kernel
theorem d_Mod_both_71 : decode c_Mod_both 71 = .ok (.iload_n 1, 1) := by decide +kernel
theorem d_Mod_both_72 : decode c_Mod_both 72 = .ok (.iload_n 2, 1) := by decide +kernel
theorem d_Mod_both_73 : decode c_Mod_both 73 = .ok (.lconst 0, 1) := by decide +kernel
theorem d_Mod_both_74 : decode c_Mod_both 74 = .ok (.iload 4, 2) := by decide +kernel
theorem d_Mod_both_76 : decode c_Mod_both 76 = .ok (.iload 5, 2) := by decide +kernel
theorem d_Mod_both_78 : decode c_Mod_both 78 = .ok (.iload 6, 2) := by decide +kernel
theorem d_Mod_both_80 : decode c_Mod_both 80 = .ok (.invokevirtual 181, 3) := by decide +kernel
theorem d_Mod_both_83 : decode c_Mod_both 83 = .ok (.istore 7, 2) := by decide +kernel
theorem d_Mod_both_85 : decode c_Mod_both 85 = .ok (.aload_n 0, 1) := by decide +kernel
theorem d_Mod_both_86 : decode c_Mod_both 86 = .ok (.invokevirtual 185, 3) := by decide +kernel
theorem d_Mod_both_89 : decode c_Mod_both 89 = .ok (.iload 7, 2) := by decide +kernel
theorem d_Mod_both_91 : decode c_Mod_both 91 = .ok (.ireturn, 1) := by decide +kernel
theorem d_Mod_several_0 : decode c_Mod_several 0 = .ok (.aload_n 0, 1) := by decide +kernel
theorem d_Mod_several_1 : decode c_Mod_several 1 = .ok (.iload_n 3, 1) := by decide +kernel
theorem d_Mod_several_2 : decode c_Mod_several 2 = .ok (.bipush 7, 2) := by decide +kernel
theorem d_Mod_several_4 : decode c_Mod_several 4 = .ok (.if_icmp .lt 26, 3) := by decide +kernel
theorem d_Mod_several_7 : decode c_Mod_several 7 = .ok (.iload_n 3, 1) := by decide +kernel
theorem d_Mod_several_8 : decode c_Mod_several 8 = .ok (.bipush 8, 2) := by decide +kernel
theorem d_Mod_several_10 : decode c_Mod_several 10 = .ok (.if_icmp .gt 20, 3) := by decide +kernel
theorem d_Mod_several_13 : decode c_Mod_several 13 = .ok (.lload_n 1, 1) := by decide +kernel
theorem d_Mod_several_14 : decode c_Mod_several 14 = .ok (.lconst 0, 1) := by decide +kernel
theorem d_Mod_several_15 : decode c_Mod_several 15 = .ok (.lcmp, 1) := by decide +kernel
theorem d_Mod_several_16 : decode c_Mod_several 16 = .ok (.ifCond .eq 14, 3) := by decide +kernel
theorem d_Mod_several_19 : decode c_Mod_several 19 = .ok (.lload_n 1, 1) := by decide +kernel
theorem d_Mod_several_20 : decode c_Mod_several 20 = .ok (.aload_n 0, 1) := by decide +kernel
theorem d_Mod_several_21 : decode c_Mod_several 21 = .ok (.getfield 121, 3) := by decide +kernel
theorem d_Mod_several_24 : decode c_Mod_several 24 = .ok (.lshr, 1) := by decide +kernel
theorem d_Mod_several_25 : decode c_Mod_several 25 = .ok (.lconst 0, 1) := by decide +kernel
theorem d_Mod_several_26 : decode c_Mod_several 26 = .ok (.lcmp, 1) := by decide +kernel
theorem d_Mod_several_27 : decode c_Mod_several 27 = .ok (.ifCond .eq 7, 3) := by decide +kernel
theorem d_Mod_several_30 : decode c_Mod_several 30 = .ok (.iconst 1, 1) := by decide +kernel
theorem d_Mod_several_31 : decode c_Mod_several 31 = .ok (.goto 17, 3) := by decide +kernel
theorem d_Mod_several_34 : decode c_Mod_several 34 = .ok (.aload_n 0, 1) := by decide +kernel
theorem d_Mod_several_35 : decode c_Mod_several 35 = .ok (.getfield 121, 3) := by decide +kernel
theorem d_Mod_several_38 : decode c_Mod_several 38 = .ok (.bipush 48, 2) := by decide +kernel
theorem d_Mod_several_40 : decode c_Mod_several 40 = .ok (.if_icmp .ne 7, 3) := by decide +kernel
theorem d_Mod_several_43 : decode c_Mod_several 43 = .ok (.iconst 2, 1) := by decide +kernel
theorem d_Mod_several_44 : decode c_Mod_several 44 = .ok (.goto 4, 3) := by decide +kernel
theorem d_Mod_several_47 : decode c_Mod_several 47 = .ok (.iconst 0, 1) := by decide +kernel
theorem d_Mod_several_48 : decode c_Mod_several 48 = .ok (.putfield 111, 3) := by decide +kernel
theorem d_Mod_several_51 : decode c_Mod_several 51 = .ok (.aload_n 0, 1) := by decide +kernel
theorem d_Mod_several_52 : decode c_Mod_several 52 = .ok (.getfield 111, 3) := by decide +kernel
theorem d_Mod_several_55 : decode c_Mod_several 55 = .ok (.ifCond .le 5, 3) := by decide +kernel
theorem d_Mod_several_58 : decode c_Mod_several 58 = .ok (.iconst 0, 1) := by decide +kernel
theorem d_Mod_several_59 : decode c_Mod_several 59 = .ok (.ireturn, 1) := by decide +kernel
theorem d_Mod_several_60 : decode c_Mod_several 60 = .ok (.aload_n 0, 1) := by decide +kernel
theorem d_Mod_several_61 : decode c_Mod_several 61 = .ok (.iload_n 3, 1) := by decide +kernel
theorem d_Mod_several_62 : decode c_Mod_several 62 = .ok (.iconst 0, 1) := by decide +kernel
theorem d_Mod_several_63 : decode c_Mod_several 63 = .ok (.iconst 0, 1) := by decide +kernel
theorem d_Mod_several_64 : decode c_Mod_several 64 = .ok (.lload_n 1, 1) := by decide +kernel
theorem d_Mod_several_65 : decode c_Mod_several 65 = .ok (.iconst 0, 1) := by decide +kernel
theorem d_Mod_several_66 : decode c_Mod_several 66 = .ok (.iconst 0, 1) := by decide +kernel
theorem d_Mod_several_67 : decode c_Mod_several 67 = .ok (.iconst 0, 1) := by decide +kernel
theorem d_Mod_several_68 : decode c_Mod_several 68 = .ok (.invokevirtual 181, 3) := by decide +kernel
theorem d_Mod_several_71 : decode c_Mod_several 71 = .ok (.istore 4, 2) := by decide +kernel
theorem d_Mod_several_73 : decode c_Mod_several 73 = .ok (.aload_n 0, 1) := by decide +kernel
theorem d_Mod_several_74 : decode c_Mod_several 74 = .ok (.invokevirtual 185, 3) := by decide +kernel
theorem d_Mod_several_77 : decode c_Mod_several 77 = .ok (.iload 4, 2) := by decide +kernel
theorem d_Mod_several_79 : decode c_Mod_several 79 = .ok (.ireturn, 1) := by decide +kernel
theorem d_Mod_complete_0 : decode c_Mod_complete 0 = .ok (.aload_n 0, 1) := by decide +kernel
theorem d_Mod_complete_1 : decode c_Mod_complete 1 = .ok (.iload_n 1, 1) := by decide +kernel
theorem d_Mod_complete_2 : decode c_Mod_complete 2 = .ok (.iconst 1, 1) := by decide +kernel
theorem d_Mod_complete_3 : decode c_Mod_complete 3 = .ok (.iload_n 2, 1) := by decide +kernel
theorem d_Mod_complete_4 : decode c_Mod_complete 4 = .ok (.invokevirtual 188, 3) := by decide +kernel
theorem d_Mod_complete_7 : decode c_Mod_complete 7 = .ok (.ireturn, 1) := by decide +kernel
theorem d_Mod_settle_0 : decode c_Mod_settle 0 = .ok (.aload_n 0, 1) := by decide +kernel
theorem d_Mod_settle_1 : decode c_Mod_settle 1 = .ok (.iconst 0, 1) := by decide +kernel
theorem d_Mod_settle_2 : decode c_Mod_settle 2 = .ok (.putfield 111, 3) := by decide +kernel
theorem d_Mod_settle_5 : decode c_Mod_settle 5 = .ok (.aload_n 0, 1) := by decide +kernel
theorem d_Mod_settle_6 : decode c_Mod_settle 6 = .ok (.iload_n 1, 1) := by decide +kernel
theorem d_Mod_settle_7 : decode c_Mod_settle 7 = .ok (.invokevirtual 162, 3) := by decide +kernel
theorem d_Mod_settle_10 : decode c_Mod_settle 10 = .ok (.ifCond .ne 5, 3) := by decide +kernel
theorem d_Mod_settle_13 : decode c_Mod_settle 13 = .ok (.iconst 0, 1) := by decide +kernel
theorem d_Mod_settle_14 : decode c_Mod_settle 14 = .ok (.ireturn, 1) := by decide +kernel
theorem d_Mod_settle_15 : decode c_Mod_settle 15 = .ok (.aload_n 0, 1) := by decide +kernel
theorem d_Mod_settle_16 : decode c_Mod_settle 16 = .ok (.iload_n 1, 1) := by decide +kernel
theorem d_Mod_settle_17 : decode c_Mod_settle 17 = .ok (.invokevirtual 124, 3) := by decide +kernel
theorem d_Mod_settle_20 : decode c_Mod_settle 20 = .ok (.ifCond .eq 5, 3) := by decide +kernel
theorem d_Mod_settle_23 : decode c_Mod_settle 23 = .ok (.iconst 0, 1) := by decide +kernel
theorem d_Mod_settle_24 : decode c_Mod_settle 24 = .ok (.ireturn, 1) := by decide +kernel
theorem d_Mod_settle_25 : decode c_Mod_settle 25 = .ok (.aload_n 0, 1) := by decide +kernel
theorem d_Mod_settle_26 : decode c_Mod_settle 26 = .ok (.iload_n 1, 1) := by decide +kernel
theorem d_Mod_settle_27 : decode c_Mod_settle 27 = .ok (.iload_n 2, 1) := by decide +kernel
theorem d_Mod_settle_28 : decode c_Mod_settle 28 = .ok (.iload_n 3, 1) := by decide +kernel
theorem d_Mod_settle_29 : decode c_Mod_settle 29 = .ok (.invokevirtual 147, 3) := by decide +kernel
theorem d_Mod_settle_32 : decode c_Mod_settle 32 = .ok (.aload_n 0, 1) := by decide +kernel
theorem d_Mod_settle_33 : decode c_Mod_settle 33 = .ok (.invokevirtual 185, 3) := by decide +kernel
theorem d_Mod_settle_36 : decode c_Mod_settle 36 = .ok (.iconst 1, 1) := by decide +kernel
theorem d_Mod_settle_37 : decode c_Mod_settle 37 = .ok (.ireturn, 1) := by decide +kernel
theorem d_Mod_fail_0 : decode c_Mod_fail 0 = .ok (.aload_n 0, 1) := by decide +kernel
theorem d_Mod_fail_1 : decode c_Mod_fail 1 = .ok (.iconst 0, 1) := by decide +kernel
theorem d_Mod_fail_2 : decode c_Mod_fail 2 = .ok (.putfield 111, 3) := by decide +kernel
theorem d_Mod_fail_5 : decode c_Mod_fail 5 = .ok (.iload_n 2, 1) := by decide +kernel
theorem d_Mod_fail_6 : decode c_Mod_fail 6 = .ok (.iconst 1, 1) := by decide +kernel
theorem d_Mod_fail_7 : decode c_Mod_fail 7 = .ok (.if_icmp .lt 23, 3) := by decide +kernel
theorem d_Mod_fail_10 : decode c_Mod_fail 10 = .ok (.iload_n 2, 1) := by decide +kernel
theorem d_Mod_fail_11 : decode c_Mod_fail 11 = .ok (.bipush 9, 2) := by decide +kernel
theorem d_Mod_fail_13 : decode c_Mod_fail 13 = .ok (.if_icmp .gt 17, 3) := by decide +kernel
theorem d_Mod_fail_16 : decode c_Mod_fail 16 = .ok (.aload_n 0, 1) := by decide +kernel
theorem d_Mod_fail_17 : decode c_Mod_fail 17 = .ok (.iload_n 1, 1) := by decide +kernel
theorem d_Mod_fail_18 : decode c_Mod_fail 18 = .ok (.iconst 2, 1) := by decide +kernel
theorem d_Mod_fail_19 : decode c_Mod_fail 19 = .ok (.iload_n 2, 1) := by decide +kernel
theorem d_Mod_fail_20 : decode c_Mod_fail 20 = .ok (.invokevirtual 188, 3) := by decide +kernel
theorem d_Mod_fail_23 : decode c_Mod_fail 23 = .ok (.ifCond .eq 7, 3) := by decide +kernel
theorem d_Mod_fail_26 : decode c_Mod_fail 26 = .ok (.iconst 1, 1) := by decide +kernel
theorem d_Mod_fail_27 : decode c_Mod_fail 27 = .ok (.goto 4, 3) := by decide +kernel
theorem d_Mod_fail_30 : decode c_Mod_fail 30 = .ok (.iconst 0, 1) := by decide +kernel
theorem d_Mod_fail_31 : decode c_Mod_fail 31 = .ok (.ireturn, 1) := by decide +kernel
theorem d_Mod_cancel_0 : decode c_Mod_cancel 0 = .ok (.aload_n 0, 1) := by decide +kernel
theorem d_Mod_cancel_1 : decode c_Mod_cancel 1 = .ok (.iload_n 1, 1) := by decide +kernel
theorem d_Mod_cancel_2 : decode c_Mod_cancel 2 = .ok (.iconst 2, 1) := by decide +kernel
theorem d_Mod_cancel_3 : decode c_Mod_cancel 3 = .ok (.iconst 0, 1) := by decide +kernel
theorem d_Mod_cancel_4 : decode c_Mod_cancel 4 = .ok (.invokevirtual 188, 3) := by decide +kernel
theorem d_Mod_cancel_7 : decode c_Mod_cancel 7 = .ok (.ireturn, 1) := by decide +kernel
theorem d_Mod_work_0 : decode c_Mod_work 0 = .ok (.aload_n 0, 1) := by decide +kernel
theorem d_Mod_work_1 : decode c_Mod_work 1 = .ok (.iconst 0, 1) := by decide +kernel
theorem d_Mod_work_2 : decode c_Mod_work 2 = .ok (.putfield 111, 3) := by decide +kernel
theorem d_Mod_work_5 : decode c_Mod_work 5 = .ok (.iload_n 1, 1) := by decide +kernel
theorem d_Mod_work_6 : decode c_Mod_work 6 = .ok (.ifCond .lt 9, 3) := by decide +kernel
theorem d_Mod_work_9 : decode c_Mod_work 9 = .ok (.iload_n 1, 1) := by decide +kernel
theorem d_Mod_work_10 : decode c_Mod_work 10 = .ok (.bipush 60, 2) := by decide +kernel
theorem d_Mod_work_12 : decode c_Mod_work 12 = .ok (.if_icmp .le 5, 3) := by decide +kernel
theorem d_Mod_work_15 : decode c_Mod_work 15 = .ok (.iconst (-1), 1) := by decide +kernel
theorem d_Mod_work_16 : decode c_Mod_work 16 = .ok (.ireturn, 1) := by decide +kernel
theorem d_Mod_work_17 : decode c_Mod_work 17 = .ok (.iconst 0, 1) := by decide +kernel
theorem d_Mod_work_18 : decode c_Mod_work 18 = .ok (.istore_n 2, 1) := by decide +kernel
theorem d_Mod_work_19 : decode c_Mod_work 19 = .ok (.iload_n 2, 1) := by decide +kernel
theorem d_Mod_work_20 : decode c_Mod_work 20 = .ok (.iload_n 1, 1) := by decide +kernel
theorem d_Mod_work_21 : decode c_Mod_work 21 = .ok (.if_icmp .ge 76, 3) := by decide +kernel
theorem d_Mod_work_24 : decode c_Mod_work 24 = .ok (.aload_n 0, 1) := by decide +kernel
theorem d_Mod_work_25 : decode c_Mod_work 25 = .ok (.getfield 135, 3) := by decide +kernel
theorem d_Mod_work_28 : decode c_Mod_work 28 = .ok (.ifCond .le 69, 3) := by decide +kernel
theorem d_Mod_work_31 : decode c_Mod_work 31 = .ok (.aload_n 0, 1) := by decide +kernel
theorem d_Mod_work_32 : decode c_Mod_work 32 = .ok (.getfield 51, 3) := by decide +kernel
theorem d_Mod_work_35 : decode c_Mod_work 35 = .ok (.iconst 0, 1) := by decide +kernel
theorem d_Mod_work_36 : decode c_Mod_work 36 = .ok (.iaload, 1) := by decide +kernel
theorem d_Mod_work_37 : decode c_Mod_work 37 = .ok (.istore_n 3, 1) := by decide +kernel
theorem d_Mod_work_38 : decode c_Mod_work 38 = .ok (.aload_n 0, 1) := by decide +kernel
theorem d_Mod_work_39 : decode c_Mod_work 39 = .ok (.dup, 1) := by decide +kernel
theorem d_Mod_work_40 : decode c_Mod_work 40 = .ok (.getfield 135, 3) := by decide +kernel
theorem d_Mod_work_43 : decode c_Mod_work 43 = .ok (.iconst 1, 1) := by decide +kernel
theorem d_Mod_work_44 : decode c_Mod_work 44 = .ok (.isub, 1) := by decide +kernel
theorem d_Mod_work_45 : decode c_Mod_work 45 = .ok (.putfield 135, 3) := by decide +kernel
theorem d_Mod_work_48 : decode c_Mod_work 48 = .ok (.iconst 0, 1) := by decide +kernel
theorem d_Mod_work_49 : decode c_Mod_work 49 = .ok (.istore 4, 2) := by decide +kernel
theorem d_Mod_work_51 : decode c_Mod_work 51 = .ok (.iload 4, 2) := by decide +kernel
theorem d_Mod_work_53 : decode c_Mod_work 53 = .ok (.aload_n 0, 1) := by decide +kernel
theorem d_Mod_work_54 : decode c_Mod_work 54 = .ok (.getfield 135, 3) := by decide +kernel
theorem d_Mod_work_57 : decode c_Mod_work 57 = .ok (.if_icmp .ge 25, 3) := by decide +kernel
theorem d_Mod_work_60 : decode c_Mod_work 60 = .ok (.aload_n 0, 1) := by decide +kernel
theorem d_Mod_work_61 : decode c_Mod_work 61 = .ok (.getfield 51, 3) := by decide +kernel
theorem d_Mod_work_64 : decode c_Mod_work 64 = .ok (.iload 4, 2) := by decide +kernel
theorem d_Mod_work_66 : decode c_Mod_work 66 = .ok (.aload_n 0, 1) := by decide +kernel
theorem d_Mod_work_67 : decode c_Mod_work 67 = .ok (.getfield 51, 3) := by decide +kernel
theorem d_Mod_work_70 : decode c_Mod_work 70 = .ok (.iload 4, 2) := by decide +kernel
theorem d_Mod_work_72 : decode c_Mod_work 72 = .ok (.iconst 1, 1) := by decide +kernel
theorem d_Mod_work_73 : decode c_Mod_work 73 = .ok (.iadd, 1) := by decide +kernel
theorem d_Mod_work_74 : decode c_Mod_work 74 = .ok (.iaload, 1) := by decide +kernel
theorem d_Mod_work_75 : decode c_Mod_work 75 = .ok (.iastore, 1) := by decide +kernel
theorem d_Mod_work_76 : decode c_Mod_work 76 = .ok (.iinc 4 1, 3) := by decide +kernel
theorem d_Mod_work_79 : decode c_Mod_work 79 = .ok (.goto (-28), 3) := by decide +kernel
theorem d_Mod_work_82 : decode c_Mod_work 82 = .ok (.aload_n 0, 1) := by decide +kernel
theorem d_Mod_work_83 : decode c_Mod_work 83 = .ok (.iload_n 3, 1) := by decide +kernel
theorem d_Mod_work_84 : decode c_Mod_work 84 = .ok (.invokevirtual 178, 3) := by decide +kernel
theorem d_Mod_work_87 : decode c_Mod_work 87 = .ok (.aload_n 0, 1) := by decide +kernel
theorem d_Mod_work_88 : decode c_Mod_work 88 = .ok (.invokevirtual 185, 3) := by decide +kernel
theorem d_Mod_work_91 : decode c_Mod_work 91 = .ok (.iinc 2 1, 3) := by decide +kernel
theorem d_Mod_work_94 : decode c_Mod_work 94 = .ok (.goto (-75), 3) := by decide +kernel
theorem d_Mod_work_97 : decode c_Mod_work 97 = .ok (.iload_n 2, 1) := by decide +kernel
theorem d_Mod_work_98 : decode c_Mod_work 98 = .ok (.ireturn, 1) := by decide +kernel
