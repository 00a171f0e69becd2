/-! decode rows (by walk.py) -/
theorem d_Mod_running_0 : decode c_Mod_running 0 = .ok (.iconst 0, 1) := by decide +kernel
theorem d_Mod_running_1 : decode c_Mod_running 1 = .ok (.istore_n 2, 1) := by decide +kernel
theorem d_Mod_running_2 : decode c_Mod_running 2 = .ok (.iconst 0, 1) := by decide +kernel
theorem d_Mod_running_3 : decode c_Mod_running 3 = .ok (.istore_n 3, 1) := by decide +kernel
theorem d_Mod_running_4 : decode c_Mod_running 4 = .ok (.iload_n 3, 1) := by decide +kernel
theorem d_Mod_running_5 : decode c_Mod_running 5 = .ok (.aload_n 0, 1) := by decide +kernel
theorem d_Mod_running_6 : decode c_Mod_running 6 = .ok (.getfield 195, 3) := by decide +kernel
theorem d_Mod_running_9 : decode c_Mod_running 9 = .ok (.if_icmp .ge 36, 3) := by decide +kernel
theorem d_Mod_running_12 : decode c_Mod_running 12 = .ok (.iload_n 2, 1) := by decide +kernel
theorem d_Mod_running_13 : decode c_Mod_running 13 = .ok (.aload_n 0, 1) := by decide +kernel
theorem d_Mod_running_14 : decode c_Mod_running 14 = .ok (.getfield 87, 3) := by decide +kernel
theorem d_Mod_running_17 : decode c_Mod_running 17 = .ok (.iload_n 3, 1) := by decide +kernel
theorem d_Mod_running_18 : decode c_Mod_running 18 = .ok (.iaload, 1) := by decide +kernel
theorem d_Mod_running_19 : decode c_Mod_running 19 = .ok (.iload_n 1, 1) := by decide +kernel
theorem d_Mod_running_20 : decode c_Mod_running 20 = .ok (.if_icmp .ne 16, 3) := by decide +kernel
theorem d_Mod_running_23 : decode c_Mod_running 23 = .ok (.aload_n 0, 1) := by decide +kernel
theorem d_Mod_running_24 : decode c_Mod_running 24 = .ok (.getfield 102, 3) := by decide +kernel
theorem d_Mod_running_27 : decode c_Mod_running 27 = .ok (.iload_n 3, 1) := by decide +kernel
theorem d_Mod_running_28 : decode c_Mod_running 28 = .ok (.iaload, 1) := by decide +kernel
theorem d_Mod_running_29 : decode c_Mod_running 29 = .ok (.ifCond .ne 7, 3) := by decide +kernel
theorem d_Mod_running_32 : decode c_Mod_running 32 = .ok (.iconst 1, 1) := by decide +kernel
theorem d_Mod_running_33 : decode c_Mod_running 33 = .ok (.goto 4, 3) := by decide +kernel
theorem d_Mod_running_36 : decode c_Mod_running 36 = .ok (.iconst 0, 1) := by decide +kernel
theorem d_Mod_running_37 : decode c_Mod_running 37 = .ok (.iadd, 1) := by decide +kernel
theorem d_Mod_running_38 : decode c_Mod_running 38 = .ok (.istore_n 2, 1) := by decide +kernel
theorem d_Mod_running_39 : decode c_Mod_running 39 = .ok (.iinc 3 1, 3) := by decide +kernel
theorem d_Mod_running_42 : decode c_Mod_running 42 = .ok (.goto (-38), 3) := by decide +kernel
theorem d_Mod_running_45 : decode c_Mod_running 45 = .ok (.iload_n 2, 1) := by decide +kernel
theorem d_Mod_running_46 : decode c_Mod_running 46 = .ok (.ireturn, 1) := by decide +kernel
theorem d_Mod_conclude_0 : decode c_Mod_conclude 0 = .ok (.iconst 0, 1) := by decide +kernel
theorem d_Mod_conclude_1 : decode c_Mod_conclude 1 = .ok (.istore_n 2, 1) := by decide +kernel
theorem d_Mod_conclude_2 : decode c_Mod_conclude 2 = .ok (.iconst 1, 1) := by decide +kernel
theorem d_Mod_conclude_3 : decode c_Mod_conclude 3 = .ok (.istore_n 3, 1) := by decide +kernel
theorem d_Mod_conclude_4 : decode c_Mod_conclude 4 = .ok (.iconst 0, 1) := by decide +kernel
theorem d_Mod_conclude_5 : decode c_Mod_conclude 5 = .ok (.istore 4, 2) := by decide +kernel
theorem d_Mod_conclude_7 : decode c_Mod_conclude 7 = .ok (.iload 4, 2) := by decide +kernel
theorem d_Mod_conclude_9 : decode c_Mod_conclude 9 = .ok (.aload_n 0, 1) := by decide +kernel
theorem d_Mod_conclude_10 : decode c_Mod_conclude 10 = .ok (.getfield 195, 3) := by decide +kernel
theorem d_Mod_conclude_13 : decode c_Mod_conclude 13 = .ok (.if_icmp .ge 66, 3) := by decide +kernel
theorem d_Mod_conclude_16 : decode c_Mod_conclude 16 = .ok (.aload_n 0, 1) := by decide +kernel
theorem d_Mod_conclude_17 : decode c_Mod_conclude 17 = .ok (.getfield 87, 3) := by decide +kernel
theorem d_Mod_conclude_20 : decode c_Mod_conclude 20 = .ok (.iload 4, 2) := by decide +kernel
theorem d_Mod_conclude_22 : decode c_Mod_conclude 22 = .ok (.iaload, 1) := by decide +kernel
theorem d_Mod_conclude_23 : decode c_Mod_conclude 23 = .ok (.iload_n 1, 1) := by decide +kernel
theorem d_Mod_conclude_24 : decode c_Mod_conclude 24 = .ok (.if_icmp .ne 49, 3) := by decide +kernel
theorem d_Mod_conclude_27 : decode c_Mod_conclude 27 = .ok (.iload_n 3, 1) := by decide +kernel
theorem d_Mod_conclude_28 : decode c_Mod_conclude 28 = .ok (.ifCond .eq 18, 3) := by decide +kernel
theorem d_Mod_conclude_31 : decode c_Mod_conclude 31 = .ok (.aload_n 0, 1) := by decide +kernel
theorem d_Mod_conclude_32 : decode c_Mod_conclude 32 = .ok (.getfield 102, 3) := by decide +kernel
theorem d_Mod_conclude_35 : decode c_Mod_conclude 35 = .ok (.iload 4, 2) := by decide +kernel
theorem d_Mod_conclude_37 : decode c_Mod_conclude 37 = .ok (.iaload, 1) := by decide +kernel
theorem d_Mod_conclude_38 : decode c_Mod_conclude 38 = .ok (.iconst 1, 1) := by decide +kernel
theorem d_Mod_conclude_39 : decode c_Mod_conclude 39 = .ok (.if_icmp .ne 7, 3) := by decide +kernel
theorem d_Mod_conclude_42 : decode c_Mod_conclude 42 = .ok (.iconst 1, 1) := by decide +kernel
theorem d_Mod_conclude_43 : decode c_Mod_conclude 43 = .ok (.goto 4, 3) := by decide +kernel
theorem d_Mod_conclude_46 : decode c_Mod_conclude 46 = .ok (.iconst 0, 1) := by decide +kernel
theorem d_Mod_conclude_47 : decode c_Mod_conclude 47 = .ok (.istore_n 3, 1) := by decide +kernel
theorem d_Mod_conclude_48 : decode c_Mod_conclude 48 = .ok (.iload_n 2, 1) := by decide +kernel
theorem d_Mod_conclude_49 : decode c_Mod_conclude 49 = .ok (.aload_n 0, 1) := by decide +kernel
theorem d_Mod_conclude_50 : decode c_Mod_conclude 50 = .ok (.getfield 102, 3) := by decide +kernel
theorem d_Mod_conclude_53 : decode c_Mod_conclude 53 = .ok (.iload 4, 2) := by decide +kernel
theorem d_Mod_conclude_55 : decode c_Mod_conclude 55 = .ok (.iaload, 1) := by decide +kernel
theorem d_Mod_conclude_56 : decode c_Mod_conclude 56 = .ok (.iconst 1, 1) := by decide +kernel
theorem d_Mod_conclude_57 : decode c_Mod_conclude 57 = .ok (.if_icmp .ne 13, 3) := by decide +kernel
theorem d_Mod_conclude_60 : decode c_Mod_conclude 60 = .ok (.aload_n 0, 1) := by decide +kernel
theorem d_Mod_conclude_61 : decode c_Mod_conclude 61 = .ok (.getfield 108, 3) := by decide +kernel
theorem d_Mod_conclude_64 : decode c_Mod_conclude 64 = .ok (.iload 4, 2) := by decide +kernel
theorem d_Mod_conclude_66 : decode c_Mod_conclude 66 = .ok (.iaload, 1) := by decide +kernel
theorem d_Mod_conclude_67 : decode c_Mod_conclude 67 = .ok (.goto 4, 3) := by decide +kernel
theorem d_Mod_conclude_70 : decode c_Mod_conclude 70 = .ok (.iconst 0, 1) := by decide +kernel
theorem d_Mod_conclude_71 : decode c_Mod_conclude 71 = .ok (.iadd, 1) := by decide +kernel
theorem d_Mod_conclude_72 : decode c_Mod_conclude 72 = .ok (.istore_n 2, 1) := by decide +kernel
theorem d_Mod_conclude_73 : decode c_Mod_conclude 73 = .ok (.iinc 4 1, 3) := by decide +kernel
theorem d_Mod_conclude_76 : decode c_Mod_conclude 76 = .ok (.goto (-69), 3) := by decide +kernel
theorem d_Mod_conclude_79 : decode c_Mod_conclude 79 = .ok (.aload_n 0, 1) := by decide +kernel
theorem d_Mod_conclude_80 : decode c_Mod_conclude 80 = .ok (.getfield 78, 3) := by decide +kernel
theorem d_Mod_conclude_83 : decode c_Mod_conclude 83 = .ok (.iload_n 1, 1) := by decide +kernel
theorem d_Mod_conclude_84 : decode c_Mod_conclude 84 = .ok (.iaload, 1) := by decide +kernel
theorem d_Mod_conclude_85 : decode c_Mod_conclude 85 = .ok (.ifCond .ge 7, 3) := by decide +kernel
theorem d_Mod_conclude_88 : decode c_Mod_conclude 88 = .ok (.iconst 0, 1) := by decide +kernel
theorem d_Mod_conclude_89 : decode c_Mod_conclude 89 = .ok (.goto 14, 3) := by decide +kernel
theorem d_Mod_conclude_92 : decode c_Mod_conclude 92 = .ok (.aload_n 0, 1) := by decide +kernel
theorem d_Mod_conclude_93 : decode c_Mod_conclude 93 = .ok (.getfield 108, 3) := by decide +kernel
theorem d_Mod_conclude_96 : decode c_Mod_conclude 96 = .ok (.aload_n 0, 1) := by decide +kernel
theorem d_Mod_conclude_97 : decode c_Mod_conclude 97 = .ok (.getfield 78, 3) := by decide +kernel
theorem d_Mod_conclude_100 : decode c_Mod_conclude 100 = .ok (.iload_n 1, 1) := by decide +kernel
theorem d_Mod_conclude_101 : decode c_Mod_conclude 101 = .ok (.iaload, 1) := by decide +kernel
theorem d_Mod_conclude_102 : decode c_Mod_conclude 102 = .ok (.iaload, 1) := by decide +kernel
theorem d_Mod_conclude_103 : decode c_Mod_conclude 103 = .ok (.istore 4, 2) := by decide +kernel
theorem d_Mod_conclude_105 : decode c_Mod_conclude 105 = .ok (.aload_n 0, 1) := by decide +kernel
theorem d_Mod_conclude_106 : decode c_Mod_conclude 106 = .ok (.getfield 66, 3) := by decide +kernel
theorem d_Mod_conclude_109 : decode c_Mod_conclude 109 = .ok (.iload_n 1, 1) := by decide +kernel
theorem d_Mod_conclude_110 : decode c_Mod_conclude 110 = .ok (.iaload, 1) := by decide +kernel
theorem d_Mod_conclude_111 : decode c_Mod_conclude 111 = .ok (.istore 5, 2) := by decide +kernel
theorem d_Mod_conclude_113 : decode c_Mod_conclude 113 = .ok (.aload_n 0, 1) := by decide +kernel
theorem d_Mod_conclude_114 : decode c_Mod_conclude 114 = .ok (.iload 5, 2) := by decide +kernel
theorem d_Mod_conclude_116 : decode c_Mod_conclude 116 = .ok (.invokevirtual 124, 3) := by decide +kernel
theorem d_Mod_conclude_119 : decode c_Mod_conclude 119 = .ok (.ifCond .eq 4, 3) := by decide +kernel
theorem d_Mod_conclude_122 : decode c_Mod_conclude 122 = .ok (.return_, 1) := by decide +kernel
theorem d_Mod_conclude_123 : decode c_Mod_conclude 123 = .ok (.aload_n 0, 1) := by decide +kernel
theorem d_Mod_conclude_124 : decode c_Mod_conclude 124 = .ok (.getfield 72, 3) := by decide +kernel
theorem d_Mod_conclude_127 : decode c_Mod_conclude 127 = .ok (.iload_n 1, 1) := by decide +kernel
theorem d_Mod_conclude_128 : decode c_Mod_conclude 128 = .ok (.baload, 1) := by decide +kernel
theorem d_Mod_conclude_129 : decode c_Mod_conclude 129 = .ok (.ifCond .eq 15, 3) := by decide +kernel
theorem d_Mod_conclude_132 : decode c_Mod_conclude 132 = .ok (.aload_n 0, 1) := by decide +kernel
theorem d_Mod_conclude_133 : decode c_Mod_conclude 133 = .ok (.iload 5, 2) := by decide +kernel
theorem d_Mod_conclude_135 : decode c_Mod_conclude 135 = .ok (.iconst 2, 1) := by decide +kernel
theorem d_Mod_conclude_136 : decode c_Mod_conclude 136 = .ok (.bipush 7, 2) := by decide +kernel
theorem d_Mod_conclude_138 : decode c_Mod_conclude 138 = .ok (.invokevirtual 147, 3) := by decide +kernel
theorem d_Mod_conclude_141 : decode c_Mod_conclude 141 = .ok (.goto 73, 3) := by decide +kernel
theorem d_Mod_conclude_144 : decode c_Mod_conclude 144 = .ok (.aload_n 0, 1) := by decide +kernel
theorem d_Mod_conclude_145 : decode c_Mod_conclude 145 = .ok (.getfield 57, 3) := by decide +kernel
theorem d_Mod_conclude_148 : decode c_Mod_conclude 148 = .ok (.iload_n 1, 1) := by decide +kernel
theorem d_Mod_conclude_149 : decode c_Mod_conclude 149 = .ok (.iaload, 1) := by decide +kernel
theorem d_Mod_conclude_150 : decode c_Mod_conclude 150 = .ok (.iconst 2, 1) := by decide +kernel
theorem d_Mod_conclude_151 : decode c_Mod_conclude 151 = .ok (.if_icmp .ge 10, 3) := by decide +kernel
theorem d_Mod_conclude_154 : decode c_Mod_conclude 154 = .ok (.iload_n 3, 1) := by decide +kernel
theorem d_Mod_conclude_155 : decode c_Mod_conclude 155 = .ok (.ifCond .eq 50, 3) := by decide +kernel
theorem d_Mod_conclude_158 : decode c_Mod_conclude 158 = .ok (.goto 12, 3) := by decide +kernel
theorem d_Mod_conclude_161 : decode c_Mod_conclude 161 = .ok (.aload_n 0, 1) := by decide +kernel
theorem d_Mod_conclude_162 : decode c_Mod_conclude 162 = .ok (.getfield 75, 3) := by decide +kernel
theorem d_Mod_conclude_165 : decode c_Mod_conclude 165 = .ok (.iload_n 1, 1) := by decide +kernel
theorem d_Mod_conclude_166 : decode c_Mod_conclude 166 = .ok (.iaload, 1) := by decide +kernel
theorem d_Mod_conclude_167 : decode c_Mod_conclude 167 = .ok (.ifCond .lt 38, 3) := by decide +kernel
theorem d_Mod_conclude_170 : decode c_Mod_conclude 170 = .ok (.aload_n 0, 1) := by decide +kernel
theorem d_Mod_conclude_171 : decode c_Mod_conclude 171 = .ok (.iload 5, 2) := by decide +kernel
theorem d_Mod_conclude_173 : decode c_Mod_conclude 173 = .ok (.iconst 1, 1) := by decide +kernel
theorem d_Mod_conclude_174 : decode c_Mod_conclude 174 = .ok (.aload_n 0, 1) := by decide +kernel
theorem d_Mod_conclude_175 : decode c_Mod_conclude 175 = .ok (.getfield 57, 3) := by decide +kernel
theorem d_Mod_conclude_178 : decode c_Mod_conclude 178 = .ok (.iload_n 1, 1) := by decide +kernel
theorem d_Mod_conclude_179 : decode c_Mod_conclude 179 = .ok (.iaload, 1) := by decide +kernel
theorem d_Mod_conclude_180 : decode c_Mod_conclude 180 = .ok (.iconst 2, 1) := by decide +kernel
theorem d_Mod_conclude_181 : decode c_Mod_conclude 181 = .ok (.if_icmp .ge 7, 3) := by decide +kernel
theorem d_Mod_conclude_184 : decode c_Mod_conclude 184 = .ok (.iload_n 2, 1) := by decide +kernel
theorem d_Mod_conclude_185 : decode c_Mod_conclude 185 = .ok (.goto 14, 3) := by decide +kernel
theorem d_Mod_conclude_188 : decode c_Mod_conclude 188 = .ok (.aload_n 0, 1) := by decide +kernel
theorem d_Mod_conclude_189 : decode c_Mod_conclude 189 = .ok (.getfield 108, 3) := by decide +kernel
theorem d_Mod_conclude_192 : decode c_Mod_conclude 192 = .ok (.aload_n 0, 1) := by decide +kernel
theorem d_Mod_conclude_193 : decode c_Mod_conclude 193 = .ok (.getfield 75, 3) := by decide +kernel
theorem d_Mod_conclude_196 : decode c_Mod_conclude 196 = .ok (.iload_n 1, 1) := by decide +kernel
theorem d_Mod_conclude_197 : decode c_Mod_conclude 197 = .ok (.iaload, 1) := by decide +kernel
theorem d_Mod_conclude_198 : decode c_Mod_conclude 198 = .ok (.iaload, 1) := by decide +kernel
theorem d_Mod_conclude_199 : decode c_Mod_conclude 199 = .ok (.invokevirtual 147, 3) := by decide +kernel
theorem d_Mod_conclude_202 : decode c_Mod_conclude 202 = .ok (.goto 12, 3) := by decide +kernel
theorem d_Mod_conclude_205 : decode c_Mod_conclude 205 = .ok (.aload_n 0, 1) := by decide +kernel
theorem d_Mod_conclude_206 : decode c_Mod_conclude 206 = .ok (.iload 5, 2) := by decide +kernel
theorem d_Mod_conclude_208 : decode c_Mod_conclude 208 = .ok (.iconst 2, 1) := by decide +kernel
theorem d_Mod_conclude_209 : decode c_Mod_conclude 209 = .ok (.iload 4, 2) := by decide +kernel
theorem d_Mod_conclude_211 : decode c_Mod_conclude 211 = .ok (.invokevirtual 147, 3) := by decide +kernel
theorem d_Mod_conclude_214 : decode c_Mod_conclude 214 = .ok (.return_, 1) := by decide +kernel
theorem d_Mod_cancelScope_0 : decode c_Mod_cancelScope 0 = .ok (.aload_n 0, 1) := by decide +kernel
theorem d_Mod_cancelScope_1 : decode c_Mod_cancelScope 1 = .ok (.iconst 0, 1) := by decide +kernel
theorem d_Mod_cancelScope_2 : decode c_Mod_cancelScope 2 = .ok (.putfield 111, 3) := by decide +kernel
theorem d_Mod_cancelScope_5 : decode c_Mod_cancelScope 5 = .ok (.aload_n 0, 1) := by decide +kernel
theorem d_Mod_cancelScope_6 : decode c_Mod_cancelScope 6 = .ok (.iload_n 1, 1) := by decide +kernel
theorem d_Mod_cancelScope_7 : decode c_Mod_cancelScope 7 = .ok (.invokevirtual 201, 3) := by decide +kernel
theorem d_Mod_cancelScope_10 : decode c_Mod_cancelScope 10 = .ok (.ifCond .ne 5, 3) := by decide +kernel
theorem d_Mod_cancelScope_13 : decode c_Mod_cancelScope 13 = .ok (.iconst 0, 1) := by decide +kernel
theorem d_Mod_cancelScope_14 : decode c_Mod_cancelScope 14 = .ok (.ireturn, 1) := by decide +kernel
theorem d_Mod_cancelScope_15 : decode c_Mod_cancelScope 15 = .ok (.aload_n 0, 1) := by decide +kernel
theorem d_Mod_cancelScope_16 : decode c_Mod_cancelScope 16 = .ok (.getfield 63, 3) := by decide +kernel
theorem d_Mod_cancelScope_19 : decode c_Mod_cancelScope 19 = .ok (.iload_n 1, 1) := by decide +kernel
theorem d_Mod_cancelScope_20 : decode c_Mod_cancelScope 20 = .ok (.iaload, 1) := by decide +kernel
theorem d_Mod_cancelScope_21 : decode c_Mod_cancelScope 21 = .ok (.iconst 2, 1) := by decide +kernel
theorem d_Mod_cancelScope_22 : decode c_Mod_cancelScope 22 = .ok (.if_icmp .ne 5, 3) := by decide +kernel
theorem d_Mod_cancelScope_25 : decode c_Mod_cancelScope 25 = .ok (.iconst 0, 1) := by decide +kernel
theorem d_Mod_cancelScope_26 : decode c_Mod_cancelScope 26 = .ok (.ireturn, 1) := by decide +kernel
theorem d_Mod_cancelScope_27 : decode c_Mod_cancelScope 27 = .ok (.aload_n 0, 1) := by decide +kernel
theorem d_Mod_cancelScope_28 : decode c_Mod_cancelScope 28 = .ok (.iload_n 1, 1) := by decide +kernel
theorem d_Mod_cancelScope_29 : decode c_Mod_cancelScope 29 = .ok (.invokevirtual 224, 3) := by decide +kernel
theorem d_Mod_cancelScope_32 : decode c_Mod_cancelScope 32 = .ok (.aload_n 0, 1) := by decide +kernel
theorem d_Mod_cancelScope_33 : decode c_Mod_cancelScope 33 = .ok (.invokevirtual 221, 3) := by decide +kernel
theorem d_Mod_cancelScope_36 : decode c_Mod_cancelScope 36 = .ok (.iconst 1, 1) := by decide +kernel
theorem d_Mod_cancelScope_37 : decode c_Mod_cancelScope 37 = .ok (.ireturn, 1) := by decide +kernel
theorem d_Mod_stop_0 : decode c_Mod_stop 0 = .ok (.iconst 0, 1) := by decide +kernel
theorem d_Mod_stop_1 : decode c_Mod_stop 1 = .ok (.istore_n 2, 1) := by decide +kernel
theorem d_Mod_stop_2 : decode c_Mod_stop 2 = .ok (.iload_n 2, 1) := by decide +kernel
theorem d_Mod_stop_3 : decode c_Mod_stop 3 = .ok (.aload_n 0, 1) := by decide +kernel
theorem d_Mod_stop_4 : decode c_Mod_stop 4 = .ok (.getfield 192, 3) := by decide +kernel
theorem d_Mod_stop_7 : decode c_Mod_stop 7 = .ok (.if_icmp .ge 91, 3) := by decide +kernel
theorem d_Mod_stop_10 : decode c_Mod_stop 10 = .ok (.aload_n 0, 1) := by decide +kernel
theorem d_Mod_stop_11 : decode c_Mod_stop 11 = .ok (.getfield 63, 3) := by decide +kernel
theorem d_Mod_stop_14 : decode c_Mod_stop 14 = .ok (.iload_n 2, 1) := by decide +kernel
theorem d_Mod_stop_15 : decode c_Mod_stop 15 = .ok (.iaload, 1) := by decide +kernel
theorem d_Mod_stop_16 : decode c_Mod_stop 16 = .ok (.iconst 2, 1) := by decide +kernel
theorem d_Mod_stop_17 : decode c_Mod_stop 17 = .ok (.if_icmp .eq 75, 3) := by decide +kernel
theorem d_Mod_stop_20 : decode c_Mod_stop 20 = .ok (.iload_n 2, 1) := by decide +kernel
theorem d_Mod_stop_21 : decode c_Mod_stop 21 = .ok (.iload_n 1, 1) := by decide +kernel
theorem d_Mod_stop_22 : decode c_Mod_stop 22 = .ok (.if_icmp .eq 12, 3) := by decide +kernel
theorem d_Mod_stop_25 : decode c_Mod_stop 25 = .ok (.aload_n 0, 1) := by decide +kernel
theorem d_Mod_stop_26 : decode c_Mod_stop 26 = .ok (.iload_n 2, 1) := by decide +kernel
theorem d_Mod_stop_27 : decode c_Mod_stop 27 = .ok (.iload_n 1, 1) := by decide +kernel
theorem d_Mod_stop_28 : decode c_Mod_stop 28 = .ok (.invokevirtual 211, 3) := by decide +kernel
theorem d_Mod_stop_31 : decode c_Mod_stop 31 = .ok (.ifCond .eq 61, 3) := by decide +kernel
theorem d_Mod_stop_34 : decode c_Mod_stop 34 = .ok (.aload_n 0, 1) := by decide +kernel
theorem d_Mod_stop_35 : decode c_Mod_stop 35 = .ok (.getfield 69, 3) := by decide +kernel
theorem d_Mod_stop_38 : decode c_Mod_stop 38 = .ok (.iload_n 2, 1) := by decide +kernel
theorem d_Mod_stop_39 : decode c_Mod_stop 39 = .ok (.iconst 1, 1) := by decide +kernel
theorem d_Mod_stop_40 : decode c_Mod_stop 40 = .ok (.bastore, 1) := by decide +kernel
theorem d_Mod_stop_41 : decode c_Mod_stop 41 = .ok (.iconst 0, 1) := by decide +kernel
theorem d_Mod_stop_42 : decode c_Mod_stop 42 = .ok (.istore_n 3, 1) := by decide +kernel
theorem d_Mod_stop_43 : decode c_Mod_stop 43 = .ok (.iload_n 3, 1) := by decide +kernel
theorem d_Mod_stop_44 : decode c_Mod_stop 44 = .ok (.aload_n 0, 1) := by decide +kernel
theorem d_Mod_stop_45 : decode c_Mod_stop 45 = .ok (.getfield 195, 3) := by decide +kernel
theorem d_Mod_stop_48 : decode c_Mod_stop 48 = .ok (.if_icmp .ge 44, 3) := by decide +kernel
theorem d_Mod_stop_51 : decode c_Mod_stop 51 = .ok (.aload_n 0, 1) := by decide +kernel
theorem d_Mod_stop_52 : decode c_Mod_stop 52 = .ok (.getfield 102, 3) := by decide +kernel
theorem d_Mod_stop_55 : decode c_Mod_stop 55 = .ok (.iload_n 3, 1) := by decide +kernel
theorem d_Mod_stop_56 : decode c_Mod_stop 56 = .ok (.aload_n 0, 1) := by decide +kernel
theorem d_Mod_stop_57 : decode c_Mod_stop 57 = .ok (.getfield 87, 3) := by decide +kernel
theorem d_Mod_stop_60 : decode c_Mod_stop 60 = .ok (.iload_n 3, 1) := by decide +kernel
theorem d_Mod_stop_61 : decode c_Mod_stop 61 = .ok (.iaload, 1) := by decide +kernel
theorem d_Mod_stop_62 : decode c_Mod_stop 62 = .ok (.iload_n 2, 1) := by decide +kernel
theorem d_Mod_stop_63 : decode c_Mod_stop 63 = .ok (.if_icmp .ne 16, 3) := by decide +kernel
theorem d_Mod_stop_66 : decode c_Mod_stop 66 = .ok (.aload_n 0, 1) := by decide +kernel
theorem d_Mod_stop_67 : decode c_Mod_stop 67 = .ok (.getfield 102, 3) := by decide +kernel
theorem d_Mod_stop_70 : decode c_Mod_stop 70 = .ok (.iload_n 3, 1) := by decide +kernel
theorem d_Mod_stop_71 : decode c_Mod_stop 71 = .ok (.iaload, 1) := by decide +kernel
theorem d_Mod_stop_72 : decode c_Mod_stop 72 = .ok (.ifCond .ne 7, 3) := by decide +kernel
theorem d_Mod_stop_75 : decode c_Mod_stop 75 = .ok (.iconst 3, 1) := by decide +kernel
theorem d_Mod_stop_76 : decode c_Mod_stop 76 = .ok (.goto 9, 3) := by decide +kernel
theorem d_Mod_stop_79 : decode c_Mod_stop 79 = .ok (.aload_n 0, 1) := by decide +kernel
theorem d_Mod_stop_80 : decode c_Mod_stop 80 = .ok (.getfield 102, 3) := by decide +kernel
theorem d_Mod_stop_83 : decode c_Mod_stop 83 = .ok (.iload_n 3, 1) := by decide +kernel
theorem d_Mod_stop_84 : decode c_Mod_stop 84 = .ok (.iaload, 1) := by decide +kernel
theorem d_Mod_stop_85 : decode c_Mod_stop 85 = .ok (.iastore, 1) := by decide +kernel
theorem d_Mod_stop_86 : decode c_Mod_stop 86 = .ok (.iinc 3 1, 3) := by decide +kernel
theorem d_Mod_stop_89 : decode c_Mod_stop 89 = .ok (.goto (-46), 3) := by decide +kernel
theorem d_Mod_stop_92 : decode c_Mod_stop 92 = .ok (.iinc 2 1, 3) := by decide +kernel
theorem d_Mod_stop_95 : decode c_Mod_stop 95 = .ok (.goto (-93), 3) := by decide +kernel
theorem d_Mod_stop_98 : decode c_Mod_stop 98 = .ok (.return_, 1) := by decide +kernel
theorem d_Mod_tick_0 : decode c_Mod_tick 0 = .ok (.aload_n 0, 1) := by decide +kernel
theorem d_Mod_tick_1 : decode c_Mod_tick 1 = .ok (.iconst 0, 1) := by decide +kernel
theorem d_Mod_tick_2 : decode c_Mod_tick 2 = .ok (.putfield 111, 3) := by decide +kernel
theorem d_Mod_tick_5 : decode c_Mod_tick 5 = .ok (.iload_n 1, 1) := by decide +kernel
theorem d_Mod_tick_6 : decode c_Mod_tick 6 = .ok (.ifCond .lt 9, 3) := by decide +kernel
theorem d_Mod_tick_9 : decode c_Mod_tick 9 = .ok (.iload_n 1, 1) := by decide +kernel
theorem d_Mod_tick_10 : decode c_Mod_tick 10 = .ok (.bipush 60, 2) := by decide +kernel
theorem d_Mod_tick_12 : decode c_Mod_tick 12 = .ok (.if_icmp .le 5, 3) := by decide +kernel
theorem d_Mod_tick_15 : decode c_Mod_tick 15 = .ok (.iconst (-1), 1) := by decide +kernel
theorem d_Mod_tick_16 : decode c_Mod_tick 16 = .ok (.ireturn, 1) := by decide +kernel
theorem d_Mod_tick_17 : decode c_Mod_tick 17 = .ok (.iconst 0, 1) := by decide +kernel
theorem d_Mod_tick_18 : decode c_Mod_tick 18 = .ok (.istore_n 2, 1) := by decide +kernel
theorem d_Mod_tick_19 : decode c_Mod_tick 19 = .ok (.iconst 0, 1) := by decide +kernel
theorem d_Mod_tick_20 : decode c_Mod_tick 20 = .ok (.istore_n 3, 1) := by decide +kernel
theorem d_Mod_tick_21 : decode c_Mod_tick 21 = .ok (.iload_n 3, 1) := by decide +kernel
theorem d_Mod_tick_22 : decode c_Mod_tick 22 = .ok (.iload_n 1, 1) := by decide +kernel
theorem d_Mod_tick_23 : decode c_Mod_tick 23 = .ok (.if_icmp .ge 16, 3) := by decide +kernel
theorem d_Mod_tick_26 : decode c_Mod_tick 26 = .ok (.iload_n 2, 1) := by decide +kernel
theorem d_Mod_tick_27 : decode c_Mod_tick 27 = .ok (.aload_n 0, 1) := by decide +kernel
theorem d_Mod_tick_28 : decode c_Mod_tick 28 = .ok (.invokevirtual 233, 3) := by decide +kernel
theorem d_Mod_tick_31 : decode c_Mod_tick 31 = .ok (.iadd, 1) := by decide +kernel
theorem d_Mod_tick_32 : decode c_Mod_tick 32 = .ok (.istore_n 2, 1) := by decide +kernel
theorem d_Mod_tick_33 : decode c_Mod_tick 33 = .ok (.iinc 3 1, 3) := by decide +kernel
theorem d_Mod_tick_36 : decode c_Mod_tick 36 = .ok (.goto (-15), 3) := by decide +kernel
theorem d_Mod_tick_39 : decode c_Mod_tick 39 = .ok (.iload_n 2, 1) := by decide +kernel
theorem d_Mod_tick_40 : decode c_Mod_tick 40 = .ok (.ireturn, 1) := by decide +kernel
theorem d_Mod_pass_0 : decode c_Mod_pass 0 = .ok (.aload_n 0, 1) := by decide +kernel
theorem d_Mod_pass_1 : decode c_Mod_pass 1 = .ok (.dup, 1) := by decide +kernel
theorem d_Mod_pass_2 : decode c_Mod_pass 2 = .ok (.getfield 198, 3) := by decide +kernel
theorem d_Mod_pass_5 : decode c_Mod_pass 5 = .ok (.iconst 1, 1) := by decide +kernel
theorem d_Mod_pass_6 : decode c_Mod_pass 6 = .ok (.iadd, 1) := by decide +kernel
theorem d_Mod_pass_7 : decode c_Mod_pass 7 = .ok (.putfield 198, 3) := by decide +kernel
theorem d_Mod_pass_10 : decode c_Mod_pass 10 = .ok (.iconst 0, 1) := by decide +kernel
theorem d_Mod_pass_11 : decode c_Mod_pass 11 = .ok (.istore_n 1, 1) := by decide +kernel
theorem d_Mod_pass_12 : decode c_Mod_pass 12 = .ok (.iload_n 1, 1) := by decide +kernel
theorem d_Mod_pass_13 : decode c_Mod_pass 13 = .ok (.aload_n 0, 1) := by decide +kernel
theorem d_Mod_pass_14 : decode c_Mod_pass 14 = .ok (.getfield 192, 3) := by decide +kernel
theorem d_Mod_pass_17 : decode c_Mod_pass 17 = .ok (.if_icmp .ge 49, 3) := by decide +kernel
theorem d_Mod_pass_20 : decode c_Mod_pass 20 = .ok (.aload_n 0, 1) := by decide +kernel
theorem d_Mod_pass_21 : decode c_Mod_pass 21 = .ok (.iload_n 1, 1) := by decide +kernel
theorem d_Mod_pass_22 : decode c_Mod_pass 22 = .ok (.invokevirtual 227, 3) := by decide +kernel
theorem d_Mod_pass_25 : decode c_Mod_pass 25 = .ok (.istore_n 2, 1) := by decide +kernel
theorem d_Mod_pass_26 : decode c_Mod_pass 26 = .ok (.aload_n 0, 1) := by decide +kernel
theorem d_Mod_pass_27 : decode c_Mod_pass 27 = .ok (.getfield 63, 3) := by decide +kernel
theorem d_Mod_pass_30 : decode c_Mod_pass 30 = .ok (.iload_n 1, 1) := by decide +kernel
theorem d_Mod_pass_31 : decode c_Mod_pass 31 = .ok (.iaload, 1) := by decide +kernel
theorem d_Mod_pass_32 : decode c_Mod_pass 32 = .ok (.iconst 2, 1) := by decide +kernel
theorem d_Mod_pass_33 : decode c_Mod_pass 33 = .ok (.if_icmp .eq 27, 3) := by decide +kernel
theorem d_Mod_pass_36 : decode c_Mod_pass 36 = .ok (.iload_n 2, 1) := by decide +kernel
theorem d_Mod_pass_37 : decode c_Mod_pass 37 = .ok (.ifCond .lt 23, 3) := by decide +kernel
theorem d_Mod_pass_40 : decode c_Mod_pass 40 = .ok (.iload_n 2, 1) := by decide +kernel
theorem d_Mod_pass_41 : decode c_Mod_pass 41 = .ok (.aload_n 0, 1) := by decide +kernel
theorem d_Mod_pass_42 : decode c_Mod_pass 42 = .ok (.getfield 198, 3) := by decide +kernel
theorem d_Mod_pass_45 : decode c_Mod_pass 45 = .ok (.if_icmp .gt 15, 3) := by decide +kernel
theorem d_Mod_pass_48 : decode c_Mod_pass 48 = .ok (.aload_n 0, 1) := by decide +kernel
theorem d_Mod_pass_49 : decode c_Mod_pass 49 = .ok (.iload_n 1, 1) := by decide +kernel
theorem d_Mod_pass_50 : decode c_Mod_pass 50 = .ok (.invokevirtual 224, 3) := by decide +kernel
theorem d_Mod_pass_53 : decode c_Mod_pass 53 = .ok (.aload_n 0, 1) := by decide +kernel
theorem d_Mod_pass_54 : decode c_Mod_pass 54 = .ok (.getfield 72, 3) := by decide +kernel
theorem d_Mod_pass_57 : decode c_Mod_pass 57 = .ok (.iload_n 1, 1) := by decide +kernel
theorem d_Mod_pass_58 : decode c_Mod_pass 58 = .ok (.iconst 1, 1) := by decide +kernel
theorem d_Mod_pass_59 : decode c_Mod_pass 59 = .ok (.bastore, 1) := by decide +kernel
theorem d_Mod_pass_60 : decode c_Mod_pass 60 = .ok (.iinc 1 1, 3) := by decide +kernel
theorem d_Mod_pass_63 : decode c_Mod_pass 63 = .ok (.goto (-51), 3) := by decide +kernel
theorem d_Mod_pass_66 : decode c_Mod_pass 66 = .ok (.iconst 0, 1) := by decide +kernel
theorem d_Mod_pass_67 : decode c_Mod_pass 67 = .ok (.istore_n 1, 1) := by decide +kernel
theorem d_Mod_pass_68 : decode c_Mod_pass 68 = .ok (.iconst 0, 1) := by decide +kernel
theorem d_Mod_pass_69 : decode c_Mod_pass 69 = .ok (.istore_n 2, 1) := by decide +kernel
theorem d_Mod_pass_70 : decode c_Mod_pass 70 = .ok (.iload_n 2, 1) := by decide +kernel
theorem d_Mod_pass_71 : decode c_Mod_pass 71 = .ok (.aload_n 0, 1) := by decide +kernel
theorem d_Mod_pass_72 : decode c_Mod_pass 72 = .ok (.getfield 195, 3) := by decide +kernel
theorem d_Mod_pass_75 : decode c_Mod_pass 75 = .ok (.if_icmp .ge 51, 3) := by decide +kernel
theorem d_Mod_pass_78 : decode c_Mod_pass 78 = .ok (.aload_n 0, 1) := by decide +kernel
theorem d_Mod_pass_79 : decode c_Mod_pass 79 = .ok (.getfield 102, 3) := by decide +kernel
theorem d_Mod_pass_82 : decode c_Mod_pass 82 = .ok (.iload_n 2, 1) := by decide +kernel
theorem d_Mod_pass_83 : decode c_Mod_pass 83 = .ok (.iaload, 1) := by decide +kernel
theorem d_Mod_pass_84 : decode c_Mod_pass 84 = .ok (.ifCond .ne 36, 3) := by decide +kernel
theorem d_Mod_pass_87 : decode c_Mod_pass 87 = .ok (.aload_n 0, 1) := by decide +kernel
theorem d_Mod_pass_88 : decode c_Mod_pass 88 = .ok (.getfield 105, 3) := by decide +kernel
theorem d_Mod_pass_91 : decode c_Mod_pass 91 = .ok (.iload_n 2, 1) := by decide +kernel
theorem d_Mod_pass_92 : decode c_Mod_pass 92 = .ok (.dup2, 1) := by decide +kernel
theorem d_Mod_pass_93 : decode c_Mod_pass 93 = .ok (.iaload, 1) := by decide +kernel
theorem d_Mod_pass_94 : decode c_Mod_pass 94 = .ok (.iconst 1, 1) := by decide +kernel
theorem d_Mod_pass_95 : decode c_Mod_pass 95 = .ok (.iadd, 1) := by decide +kernel
theorem d_Mod_pass_96 : decode c_Mod_pass 96 = .ok (.iastore, 1) := by decide +kernel
theorem d_Mod_pass_97 : decode c_Mod_pass 97 = .ok (.aload_n 0, 1) := by decide +kernel
theorem d_Mod_pass_98 : decode c_Mod_pass 98 = .ok (.getfield 105, 3) := by decide +kernel
theorem d_Mod_pass_101 : decode c_Mod_pass 101 = .ok (.iload_n 2, 1) := by decide +kernel
theorem d_Mod_pass_102 : decode c_Mod_pass 102 = .ok (.iaload, 1) := by decide +kernel
theorem d_Mod_pass_103 : decode c_Mod_pass 103 = .ok (.aload_n 0, 1) := by decide +kernel
theorem d_Mod_pass_104 : decode c_Mod_pass 104 = .ok (.getfield 90, 3) := by decide +kernel
theorem d_Mod_pass_107 : decode c_Mod_pass 107 = .ok (.iload_n 2, 1) := by decide +kernel
theorem d_Mod_pass_108 : decode c_Mod_pass 108 = .ok (.iaload, 1) := by decide +kernel
theorem d_Mod_pass_109 : decode c_Mod_pass 109 = .ok (.if_icmp .ne 11, 3) := by decide +kernel
theorem d_Mod_pass_112 : decode c_Mod_pass 112 = .ok (.aload_n 0, 1) := by decide +kernel
theorem d_Mod_pass_113 : decode c_Mod_pass 113 = .ok (.iload_n 2, 1) := by decide +kernel
theorem d_Mod_pass_114 : decode c_Mod_pass 114 = .ok (.invokevirtual 230, 3) := by decide +kernel
theorem d_Mod_pass_117 : decode c_Mod_pass 117 = .ok (.iinc 1 1, 3) := by decide +kernel
theorem d_Mod_pass_120 : decode c_Mod_pass 120 = .ok (.iinc 2 1, 3) := by decide +kernel
theorem d_Mod_pass_123 : decode c_Mod_pass 123 = .ok (.goto (-53), 3) := by decide +kernel
theorem d_Mod_pass_126 : decode c_Mod_pass 126 = .ok (.aload_n 0, 1) := by decide +kernel
theorem d_Mod_pass_127 : decode c_Mod_pass 127 = .ok (.invokevirtual 221, 3) := by decide +kernel
theorem d_Mod_pass_130 : decode c_Mod_pass 130 = .ok (.iload_n 1, 1) := by decide +kernel
theorem d_Mod_pass_131 : decode c_Mod_pass 131 = .ok (.ireturn, 1) := by decide +kernel
theorem d_Mod_effective_0 : decode c_Mod_effective 0 = .ok (.iconst (-1), 1) := by decide +kernel
theorem d_Mod_effective_1 : decode c_Mod_effective 1 = .ok (.istore_n 2, 1) := by decide +kernel
theorem d_Mod_effective_2 : decode c_Mod_effective 2 = .ok (.iload_n 1, 1) := by decide +kernel
theorem d_Mod_effective_3 : decode c_Mod_effective 3 = .ok (.istore_n 3, 1) := by decide +kernel
theorem d_Mod_effective_4 : decode c_Mod_effective 4 = .ok (.iload_n 3, 1) := by decide +kernel
theorem d_Mod_effective_5 : decode c_Mod_effective 5 = .ok (.ifCond .lt 47, 3) := by decide +kernel
theorem d_Mod_effective_8 : decode c_Mod_effective 8 = .ok (.aload_n 0, 1) := by decide +kernel
theorem d_Mod_effective_9 : decode c_Mod_effective 9 = .ok (.getfield 60, 3) := by decide +kernel
theorem d_Mod_effective_12 : decode c_Mod_effective 12 = .ok (.iload_n 3, 1) := by decide +kernel
theorem d_Mod_effective_13 : decode c_Mod_effective 13 = .ok (.iaload, 1) := by decide +kernel
theorem d_Mod_effective_14 : decode c_Mod_effective 14 = .ok (.ifCond .lt 26, 3) := by decide +kernel
theorem d_Mod_effective_17 : decode c_Mod_effective 17 = .ok (.iload_n 2, 1) := by decide +kernel
theorem d_Mod_effective_18 : decode c_Mod_effective 18 = .ok (.ifCond .lt 13, 3) := by decide +kernel
theorem d_Mod_effective_21 : decode c_Mod_effective 21 = .ok (.aload_n 0, 1) := by decide +kernel
theorem d_Mod_effective_22 : decode c_Mod_effective 22 = .ok (.getfield 60, 3) := by decide +kernel
theorem d_Mod_effective_25 : decode c_Mod_effective 25 = .ok (.iload_n 3, 1) := by decide +kernel
theorem d_Mod_effective_26 : decode c_Mod_effective 26 = .ok (.iaload, 1) := by decide +kernel
theorem d_Mod_effective_27 : decode c_Mod_effective 27 = .ok (.iload_n 2, 1) := by decide +kernel
theorem d_Mod_effective_28 : decode c_Mod_effective 28 = .ok (.if_icmp .ge 12, 3) := by decide +kernel
theorem d_Mod_effective_31 : decode c_Mod_effective 31 = .ok (.aload_n 0, 1) := by decide +kernel
theorem d_Mod_effective_32 : decode c_Mod_effective 32 = .ok (.getfield 60, 3) := by decide +kernel
theorem d_Mod_effective_35 : decode c_Mod_effective 35 = .ok (.iload_n 3, 1) := by decide +kernel
theorem d_Mod_effective_36 : decode c_Mod_effective 36 = .ok (.iaload, 1) := by decide +kernel
theorem d_Mod_effective_37 : decode c_Mod_effective 37 = .ok (.goto 4, 3) := by decide +kernel
theorem d_Mod_effective_40 : decode c_Mod_effective 40 = .ok (.iload_n 2, 1) := by decide +kernel
theorem d_Mod_effective_41 : decode c_Mod_effective 41 = .ok (.istore_n 2, 1) := by decide +kernel
theorem d_Mod_effective_42 : decode c_Mod_effective 42 = .ok (.aload_n 0, 1) := by decide +kernel
theorem d_Mod_effective_43 : decode c_Mod_effective 43 = .ok (.getfield 54, 3) := by decide +kernel
theorem d_Mod_effective_46 : decode c_Mod_effective 46 = .ok (.iload_n 3, 1) := by decide +kernel
theorem d_Mod_effective_47 : decode c_Mod_effective 47 = .ok (.iaload, 1) := by decide +kernel
theorem d_Mod_effective_48 : decode c_Mod_effective 48 = .ok (.istore_n 3, 1) := by decide +kernel
theorem d_Mod_effective_49 : decode c_Mod_effective 49 = .ok (.goto (-45), 3) := by decide +kernel
theorem d_Mod_effective_52 : decode c_Mod_effective 52 = .ok (.iload_n 2, 1) := by decide +kernel
theorem d_Mod_effective_53 : decode c_Mod_effective 53 = .ok (.ireturn, 1) := by decide +kernel
theorem d_Mod_end_0 : decode c_Mod_end 0 = .ok (.aload_n 0, 1) := by decide +kernel
theorem d_Mod_end_1 : decode c_Mod_end 1 = .ok (.getfield 87, 3) := by decide +kernel
theorem d_Mod_end_4 : decode c_Mod_end 4 = .ok (.iload_n 1, 1) := by decide +kernel
theorem d_Mod_end_5 : decode c_Mod_end 5 = .ok (.iaload, 1) := by decide +kernel
theorem d_Mod_end_6 : decode c_Mod_end 6 = .ok (.istore_n 2, 1) := by decide +kernel
theorem d_Mod_end_7 : decode c_Mod_end 7 = .ok (.aload_n 0, 1) := by decide +kernel
theorem d_Mod_end_8 : decode c_Mod_end 8 = .ok (.aload_n 0, 1) := by decide +kernel
theorem d_Mod_end_9 : decode c_Mod_end 9 = .ok (.getfield 93, 3) := by decide +kernel
theorem d_Mod_end_12 : decode c_Mod_end 12 = .ok (.iload_n 1, 1) := by decide +kernel
theorem d_Mod_end_13 : decode c_Mod_end 13 = .ok (.iaload, 1) := by decide +kernel
theorem d_Mod_end_14 : decode c_Mod_end 14 = .ok (.aload_n 0, 1) := by decide +kernel
theorem d_Mod_end_15 : decode c_Mod_end 15 = .ok (.getfield 96, 3) := by decide +kernel
theorem d_Mod_end_18 : decode c_Mod_end 18 = .ok (.iload_n 1, 1) := by decide +kernel
theorem d_Mod_end_19 : decode c_Mod_end 19 = .ok (.iaload, 1) := by decide +kernel
theorem d_Mod_end_20 : decode c_Mod_end 20 = .ok (.aload_n 0, 1) := by decide +kernel
theorem d_Mod_end_21 : decode c_Mod_end 21 = .ok (.getfield 99, 3) := by decide +kernel
theorem d_Mod_end_24 : decode c_Mod_end 24 = .ok (.iload_n 1, 1) := by decide +kernel
theorem d_Mod_end_25 : decode c_Mod_end 25 = .ok (.iaload, 1) := by decide +kernel
theorem d_Mod_end_26 : decode c_Mod_end 26 = .ok (.invokevirtual 155, 3) := by decide +kernel
theorem d_Mod_end_29 : decode c_Mod_end 29 = .ok (.aload_n 0, 1) := by decide +kernel
theorem d_Mod_end_30 : decode c_Mod_end 30 = .ok (.getfield 102, 3) := by decide +kernel
theorem d_Mod_end_33 : decode c_Mod_end 33 = .ok (.iload_n 1, 1) := by decide +kernel
theorem d_Mod_end_34 : decode c_Mod_end 34 = .ok (.aload_n 0, 1) := by decide +kernel
theorem d_Mod_end_35 : decode c_Mod_end 35 = .ok (.getfield 115, 3) := by decide +kernel
theorem d_Mod_end_38 : decode c_Mod_end 38 = .ok (.ifCond .le 7, 3) := by decide +kernel
theorem d_Mod_end_41 : decode c_Mod_end 41 = .ok (.iconst 2, 1) := by decide +kernel
theorem d_Mod_end_42 : decode c_Mod_end 42 = .ok (.goto 4, 3) := by decide +kernel
theorem d_Mod_end_45 : decode c_Mod_end 45 = .ok (.iconst 1, 1) := by decide +kernel
theorem d_Mod_end_46 : decode c_Mod_end 46 = .ok (.iastore, 1) := by decide +kernel
theorem d_Mod_end_47 : decode c_Mod_end 47 = .ok (.aload_n 0, 1) := by decide +kernel
theorem d_Mod_end_48 : decode c_Mod_end 48 = .ok (.getfield 108, 3) := by decide +kernel
theorem d_Mod_end_51 : decode c_Mod_end 51 = .ok (.iload_n 1, 1) := by decide +kernel
theorem d_Mod_end_52 : decode c_Mod_end 52 = .ok (.aload_n 0, 1) := by decide +kernel
theorem d_Mod_end_53 : decode c_Mod_end 53 = .ok (.getfield 115, 3) := by decide +kernel
theorem d_Mod_end_56 : decode c_Mod_end 56 = .ok (.ifCond .le 10, 3) := by decide +kernel
theorem d_Mod_end_59 : decode c_Mod_end 59 = .ok (.aload_n 0, 1) := by decide +kernel
theorem d_Mod_end_60 : decode c_Mod_end 60 = .ok (.getfield 115, 3) := by decide +kernel
theorem d_Mod_end_63 : decode c_Mod_end 63 = .ok (.goto 7, 3) := by decide +kernel
theorem d_Mod_end_66 : decode c_Mod_end 66 = .ok (.aload_n 0, 1) := by decide +kernel
theorem d_Mod_end_67 : decode c_Mod_end 67 = .ok (.getfield 118, 3) := by decide +kernel
theorem d_Mod_end_70 : decode c_Mod_end 70 = .ok (.iastore, 1) := by decide +kernel
theorem d_Mod_end_71 : decode c_Mod_end 71 = .ok (.aload_n 0, 1) := by decide +kernel
theorem d_Mod_end_72 : decode c_Mod_end 72 = .ok (.getfield 115, 3) := by decide +kernel
theorem d_Mod_end_75 : decode c_Mod_end 75 = .ok (.ifCond .le 31, 3) := by decide +kernel
theorem d_Mod_end_78 : decode c_Mod_end 78 = .ok (.aload_n 0, 1) := by decide +kernel
theorem d_Mod_end_79 : decode c_Mod_end 79 = .ok (.getfield 78, 3) := by decide +kernel
theorem d_Mod_end_82 : decode c_Mod_end 82 = .ok (.iload_n 2, 1) := by decide +kernel
theorem d_Mod_end_83 : decode c_Mod_end 83 = .ok (.aload_n 0, 1) := by decide +kernel
theorem d_Mod_end_84 : decode c_Mod_end 84 = .ok (.getfield 78, 3) := by decide +kernel
theorem d_Mod_end_87 : decode c_Mod_end 87 = .ok (.iload_n 2, 1) := by decide +kernel
theorem d_Mod_end_88 : decode c_Mod_end 88 = .ok (.iaload, 1) := by decide +kernel
theorem d_Mod_end_89 : decode c_Mod_end 89 = .ok (.ifCond .ge 7, 3) := by decide +kernel
theorem d_Mod_end_92 : decode c_Mod_end 92 = .ok (.iload_n 1, 1) := by decide +kernel
theorem d_Mod_end_93 : decode c_Mod_end 93 = .ok (.goto 9, 3) := by decide +kernel
theorem d_Mod_end_96 : decode c_Mod_end 96 = .ok (.aload_n 0, 1) := by decide +kernel
theorem d_Mod_end_97 : decode c_Mod_end 97 = .ok (.getfield 78, 3) := by decide +kernel
theorem d_Mod_end_100 : decode c_Mod_end 100 = .ok (.iload_n 2, 1) := by decide +kernel
theorem d_Mod_end_101 : decode c_Mod_end 101 = .ok (.iaload, 1) := by decide +kernel
theorem d_Mod_end_102 : decode c_Mod_end 102 = .ok (.iastore, 1) := by decide +kernel
theorem d_Mod_end_103 : decode c_Mod_end 103 = .ok (.goto 28, 3) := by decide +kernel
theorem d_Mod_end_106 : decode c_Mod_end 106 = .ok (.aload_n 0, 1) := by decide +kernel
theorem d_Mod_end_107 : decode c_Mod_end 107 = .ok (.getfield 75, 3) := by decide +kernel
theorem d_Mod_end_110 : decode c_Mod_end 110 = .ok (.iload_n 2, 1) := by decide +kernel
theorem d_Mod_end_111 : decode c_Mod_end 111 = .ok (.aload_n 0, 1) := by decide +kernel
theorem d_Mod_end_112 : decode c_Mod_end 112 = .ok (.getfield 75, 3) := by decide +kernel
theorem d_Mod_end_115 : decode c_Mod_end 115 = .ok (.iload_n 2, 1) := by decide +kernel
theorem d_Mod_end_116 : decode c_Mod_end 116 = .ok (.iaload, 1) := by decide +kernel
theorem d_Mod_end_117 : decode c_Mod_end 117 = .ok (.ifCond .ge 7, 3) := by decide +kernel
theorem d_Mod_end_120 : decode c_Mod_end 120 = .ok (.iload_n 1, 1) := by decide +kernel
theorem d_Mod_end_121 : decode c_Mod_end 121 = .ok (.goto 9, 3) := by decide +kernel
theorem d_Mod_end_124 : decode c_Mod_end 124 = .ok (.aload_n 0, 1) := by decide +kernel
theorem d_Mod_end_125 : decode c_Mod_end 125 = .ok (.getfield 75, 3) := by decide +kernel
theorem d_Mod_end_128 : decode c_Mod_end 128 = .ok (.iload_n 2, 1) := by decide +kernel
theorem d_Mod_end_129 : decode c_Mod_end 129 = .ok (.iaload, 1) := by decide +kernel
theorem d_Mod_end_130 : decode c_Mod_end 130 = .ok (.iastore, 1) := by decide +kernel
theorem d_Mod_end_131 : decode c_Mod_end 131 = .ok (.aload_n 0, 1) := by decide +kernel
theorem d_Mod_end_132 : decode c_Mod_end 132 = .ok (.getfield 57, 3) := by decide +kernel
theorem d_Mod_end_135 : decode c_Mod_end 135 = .ok (.iload_n 2, 1) := by decide +kernel
theorem d_Mod_end_136 : decode c_Mod_end 136 = .ok (.iaload, 1) := by decide +kernel
theorem d_Mod_end_137 : decode c_Mod_end 137 = .ok (.iconst 1, 1) := by decide +kernel
theorem d_Mod_end_138 : decode c_Mod_end 138 = .ok (.if_icmp .ne 10, 3) := by decide +kernel
theorem d_Mod_end_141 : decode c_Mod_end 141 = .ok (.aload_n 0, 1) := by decide +kernel
theorem d_Mod_end_142 : decode c_Mod_end 142 = .ok (.getfield 115, 3) := by decide +kernel
theorem d_Mod_end_145 : decode c_Mod_end 145 = .ok (.ifCond .gt 20, 3) := by decide +kernel
theorem d_Mod_end_148 : decode c_Mod_end 148 = .ok (.aload_n 0, 1) := by decide +kernel
theorem d_Mod_end_149 : decode c_Mod_end 149 = .ok (.getfield 57, 3) := by decide +kernel
theorem d_Mod_end_152 : decode c_Mod_end 152 = .ok (.iload_n 2, 1) := by decide +kernel
theorem d_Mod_end_153 : decode c_Mod_end 153 = .ok (.iaload, 1) := by decide +kernel
theorem d_Mod_end_154 : decode c_Mod_end 154 = .ok (.iconst 2, 1) := by decide +kernel
theorem d_Mod_end_155 : decode c_Mod_end 155 = .ok (.if_icmp .ne 15, 3) := by decide +kernel
theorem d_Mod_end_158 : decode c_Mod_end 158 = .ok (.aload_n 0, 1) := by decide +kernel
theorem d_Mod_end_159 : decode c_Mod_end 159 = .ok (.getfield 115, 3) := by decide +kernel
theorem d_Mod_end_162 : decode c_Mod_end 162 = .ok (.ifCond .ne 8, 3) := by decide +kernel
theorem d_Mod_end_165 : decode c_Mod_end 165 = .ok (.aload_n 0, 1) := by decide +kernel
theorem d_Mod_end_166 : decode c_Mod_end 166 = .ok (.iload_n 2, 1) := by decide +kernel
theorem d_Mod_end_167 : decode c_Mod_end 167 = .ok (.invokevirtual 224, 3) := by decide +kernel
theorem d_Mod_end_170 : decode c_Mod_end 170 = .ok (.return_, 1) := by decide +kernel
theorem d_Mod_scope_0 : decode c_Mod_scope 0 = .ok (.aload_n 0, 1) := by decide +kernel
theorem d_Mod_scope_1 : decode c_Mod_scope 1 = .ok (.iconst 0, 1) := by decide +kernel
theorem d_Mod_scope_2 : decode c_Mod_scope 2 = .ok (.putfield 111, 3) := by decide +kernel
theorem d_Mod_scope_5 : decode c_Mod_scope 5 = .ok (.aload_n 0, 1) := by decide +kernel
theorem d_Mod_scope_6 : decode c_Mod_scope 6 = .ok (.iload_n 1, 1) := by decide +kernel
theorem d_Mod_scope_7 : decode c_Mod_scope 7 = .ok (.invokevirtual 201, 3) := by decide +kernel
theorem d_Mod_scope_10 : decode c_Mod_scope 10 = .ok (.ifCond .eq 12, 3) := by decide +kernel
theorem d_Mod_scope_13 : decode c_Mod_scope 13 = .ok (.iload_n 2, 1) := by decide +kernel
theorem d_Mod_scope_14 : decode c_Mod_scope 14 = .ok (.ifCond .lt 8, 3) := by decide +kernel
theorem d_Mod_scope_17 : decode c_Mod_scope 17 = .ok (.iload_n 2, 1) := by decide +kernel
theorem d_Mod_scope_18 : decode c_Mod_scope 18 = .ok (.iconst 5, 1) := by decide +kernel
theorem d_Mod_scope_19 : decode c_Mod_scope 19 = .ok (.if_icmp .le 5, 3) := by decide +kernel
theorem d_Mod_scope_22 : decode c_Mod_scope 22 = .ok (.iconst (-1), 1) := by decide +kernel
theorem d_Mod_scope_23 : decode c_Mod_scope 23 = .ok (.ireturn, 1) := by decide +kernel
theorem d_Mod_scope_24 : decode c_Mod_scope 24 = .ok (.iload_n 2, 1) := by decide +kernel
theorem d_Mod_scope_25 : decode c_Mod_scope 25 = .ok (.iconst 5, 1) := by decide +kernel
theorem d_Mod_scope_26 : decode c_Mod_scope 26 = .ok (.if_icmp .ne 55, 3) := by decide +kernel
theorem d_Mod_scope_29 : decode c_Mod_scope 29 = .ok (.iconst 0, 1) := by decide +kernel
theorem d_Mod_scope_30 : decode c_Mod_scope 30 = .ok (.istore_n 3, 1) := by decide +kernel
theorem d_Mod_scope_31 : decode c_Mod_scope 31 = .ok (.iconst 0, 1) := by decide +kernel
theorem d_Mod_scope_32 : decode c_Mod_scope 32 = .ok (.istore 4, 2) := by decide +kernel
theorem d_Mod_scope_34 : decode c_Mod_scope 34 = .ok (.iload 4, 2) := by decide +kernel
theorem d_Mod_scope_36 : decode c_Mod_scope 36 = .ok (.aload_n 0, 1) := by decide +kernel
theorem d_Mod_scope_37 : decode c_Mod_scope 37 = .ok (.getfield 195, 3) := by decide +kernel
theorem d_Mod_scope_40 : decode c_Mod_scope 40 = .ok (.if_icmp .ge 39, 3) := by decide +kernel
theorem d_Mod_scope_43 : decode c_Mod_scope 43 = .ok (.iload_n 3, 1) := by decide +kernel
theorem d_Mod_scope_44 : decode c_Mod_scope 44 = .ok (.aload_n 0, 1) := by decide +kernel
theorem d_Mod_scope_45 : decode c_Mod_scope 45 = .ok (.getfield 87, 3) := by decide +kernel
theorem d_Mod_scope_48 : decode c_Mod_scope 48 = .ok (.iload 4, 2) := by decide +kernel
theorem d_Mod_scope_50 : decode c_Mod_scope 50 = .ok (.iaload, 1) := by decide +kernel
theorem d_Mod_scope_51 : decode c_Mod_scope 51 = .ok (.iload_n 1, 1) := by decide +kernel
theorem d_Mod_scope_52 : decode c_Mod_scope 52 = .ok (.if_icmp .ne 18, 3) := by decide +kernel
theorem d_Mod_scope_55 : decode c_Mod_scope 55 = .ok (.aload_n 0, 1) := by decide +kernel
theorem d_Mod_scope_56 : decode c_Mod_scope 56 = .ok (.getfield 102, 3) := by decide +kernel
theorem d_Mod_scope_59 : decode c_Mod_scope 59 = .ok (.iload 4, 2) := by decide +kernel
theorem d_Mod_scope_61 : decode c_Mod_scope 61 = .ok (.iaload, 1) := by decide +kernel
theorem d_Mod_scope_62 : decode c_Mod_scope 62 = .ok (.iconst 2, 1) := by decide +kernel
theorem d_Mod_scope_63 : decode c_Mod_scope 63 = .ok (.if_icmp .ne 7, 3) := by decide +kernel
theorem d_Mod_scope_66 : decode c_Mod_scope 66 = .ok (.iconst 1, 1) := by decide +kernel
theorem d_Mod_scope_67 : decode c_Mod_scope 67 = .ok (.goto 4, 3) := by decide +kernel
theorem d_Mod_scope_70 : decode c_Mod_scope 70 = .ok (.iconst 0, 1) := by decide +kernel
theorem d_Mod_scope_71 : decode c_Mod_scope 71 = .ok (.iadd, 1) := by decide +kernel
theorem d_Mod_scope_72 : decode c_Mod_scope 72 = .ok (.istore_n 3, 1) := by decide +kernel
theorem d_Mod_scope_73 : decode c_Mod_scope 73 = .ok (.iinc 4 1, 3) := by decide +kernel
theorem d_Mod_scope_76 : decode c_Mod_scope 76 = .ok (.goto (-42), 3) := by decide +kernel
theorem d_Mod_scope_79 : decode c_Mod_scope 79 = .ok (.iload_n 3, 1) := by decide +kernel
theorem d_Mod_scope_80 : decode c_Mod_scope 80 = .ok (.ireturn, 1) := by decide +kernel
theorem d_Mod_scope_81 : decode c_Mod_scope 81 = .ok (.iload_n 2, 1) := by decide +kernel
theorem d_Mod_scope_82 : decode c_Mod_scope 82 = .ok (.ifCond .ne 12, 3) := by decide +kernel
theorem d_Mod_scope_85 : decode c_Mod_scope 85 = .ok (.aload_n 0, 1) := by decide +kernel
theorem d_Mod_scope_86 : decode c_Mod_scope 86 = .ok (.getfield 63, 3) := by decide +kernel
theorem d_Mod_scope_89 : decode c_Mod_scope 89 = .ok (.iload_n 1, 1) := by decide +kernel
theorem d_Mod_scope_90 : decode c_Mod_scope 90 = .ok (.iaload, 1) := by decide +kernel
theorem d_Mod_scope_91 : decode c_Mod_scope 91 = .ok (.goto 72, 3) := by decide +kernel
theorem d_Mod_scope_94 : decode c_Mod_scope 94 = .ok (.iload_n 2, 1) := by decide +kernel
theorem d_Mod_scope_95 : decode c_Mod_scope 95 = .ok (.iconst 1, 1) := by decide +kernel
theorem d_Mod_scope_96 : decode c_Mod_scope 96 = .ok (.if_icmp .ne 12, 3) := by decide +kernel
theorem d_Mod_scope_99 : decode c_Mod_scope 99 = .ok (.aload_n 0, 1) := by decide +kernel
theorem d_Mod_scope_100 : decode c_Mod_scope 100 = .ok (.getfield 66, 3) := by decide +kernel
theorem d_Mod_scope_103 : decode c_Mod_scope 103 = .ok (.iload_n 1, 1) := by decide +kernel
theorem d_Mod_scope_104 : decode c_Mod_scope 104 = .ok (.iaload, 1) := by decide +kernel
theorem d_Mod_scope_105 : decode c_Mod_scope 105 = .ok (.goto 58, 3) := by decide +kernel
theorem d_Mod_scope_108 : decode c_Mod_scope 108 = .ok (.iload_n 2, 1) := by decide +kernel
theorem d_Mod_scope_109 : decode c_Mod_scope 109 = .ok (.iconst 2, 1) := by decide +kernel
theorem d_Mod_scope_110 : decode c_Mod_scope 110 = .ok (.if_icmp .ne 11, 3) := by decide +kernel
theorem d_Mod_scope_113 : decode c_Mod_scope 113 = .ok (.aload_n 0, 1) := by decide +kernel
theorem d_Mod_scope_114 : decode c_Mod_scope 114 = .ok (.iload_n 1, 1) := by decide +kernel
theorem d_Mod_scope_115 : decode c_Mod_scope 115 = .ok (.invokevirtual 227, 3) := by decide +kernel
theorem d_Mod_scope_118 : decode c_Mod_scope 118 = .ok (.goto 45, 3) := by decide +kernel
theorem d_Mod_scope_121 : decode c_Mod_scope 121 = .ok (.iload_n 2, 1) := by decide +kernel
theorem d_Mod_scope_122 : decode c_Mod_scope 122 = .ok (.iconst 3, 1) := by decide +kernel
theorem d_Mod_scope_123 : decode c_Mod_scope 123 = .ok (.if_icmp .ne 11, 3) := by decide +kernel
theorem d_Mod_scope_126 : decode c_Mod_scope 126 = .ok (.aload_n 0, 1) := by decide +kernel
theorem d_Mod_scope_127 : decode c_Mod_scope 127 = .ok (.iload_n 1, 1) := by decide +kernel
theorem d_Mod_scope_128 : decode c_Mod_scope 128 = .ok (.invokevirtual 215, 3) := by decide +kernel
theorem d_Mod_scope_131 : decode c_Mod_scope 131 = .ok (.goto 32, 3) := by decide +kernel
theorem d_Mod_scope_134 : decode c_Mod_scope 134 = .ok (.aload_n 0, 1) := by decide +kernel
theorem d_Mod_scope_135 : decode c_Mod_scope 135 = .ok (.getfield 69, 3) := by decide +kernel
theorem d_Mod_scope_138 : decode c_Mod_scope 138 = .ok (.iload_n 1, 1) := by decide +kernel
theorem d_Mod_scope_139 : decode c_Mod_scope 139 = .ok (.baload, 1) := by decide +kernel
theorem d_Mod_scope_140 : decode c_Mod_scope 140 = .ok (.ifCond .eq 7, 3) := by decide +kernel
theorem d_Mod_scope_143 : decode c_Mod_scope 143 = .ok (.iconst 1, 1) := by decide +kernel
theorem d_Mod_scope_144 : decode c_Mod_scope 144 = .ok (.goto 4, 3) := by decide +kernel
theorem d_Mod_scope_147 : decode c_Mod_scope 147 = .ok (.iconst 0, 1) := by decide +kernel
theorem d_Mod_scope_148 : decode c_Mod_scope 148 = .ok (.aload_n 0, 1) := by decide +kernel
theorem d_Mod_scope_149 : decode c_Mod_scope 149 = .ok (.getfield 72, 3) := by decide +kernel
theorem d_Mod_scope_152 : decode c_Mod_scope 152 = .ok (.iload_n 1, 1) := by decide +kernel
theorem d_Mod_scope_153 : decode c_Mod_scope 153 = .ok (.baload, 1) := by decide +kernel
theorem d_Mod_scope_154 : decode c_Mod_scope 154 = .ok (.ifCond .eq 7, 3) := by decide +kernel
theorem d_Mod_scope_157 : decode c_Mod_scope 157 = .ok (.iconst 2, 1) := by decide +kernel
theorem d_Mod_scope_158 : decode c_Mod_scope 158 = .ok (.goto 4, 3) := by decide +kernel
theorem d_Mod_scope_161 : decode c_Mod_scope 161 = .ok (.iconst 0, 1) := by decide +kernel
theorem d_Mod_scope_162 : decode c_Mod_scope 162 = .ok (.iadd, 1) := by decide +kernel
theorem d_Mod_scope_163 : decode c_Mod_scope 163 = .ok (.ireturn, 1) := by decide +kernel
theorem d_Mod_task_0 : decode c_Mod_task 0 = .ok (.aload_n 0, 1) := by decide +kernel
theorem d_Mod_task_1 : decode c_Mod_task 1 = .ok (.iconst 0, 1) := by decide +kernel
theorem d_Mod_task_2 : decode c_Mod_task 2 = .ok (.putfield 111, 3) := by decide +kernel
theorem d_Mod_task_5 : decode c_Mod_task 5 = .ok (.iload_n 1, 1) := by decide +kernel
theorem d_Mod_task_6 : decode c_Mod_task 6 = .ok (.ifCond .lt 20, 3) := by decide +kernel
theorem d_Mod_task_9 : decode c_Mod_task 9 = .ok (.iload_n 1, 1) := by decide +kernel
theorem d_Mod_task_10 : decode c_Mod_task 10 = .ok (.aload_n 0, 1) := by decide +kernel
theorem d_Mod_task_11 : decode c_Mod_task 11 = .ok (.getfield 195, 3) := by decide +kernel
theorem d_Mod_task_14 : decode c_Mod_task 14 = .ok (.if_icmp .ge 12, 3) := by decide +kernel
theorem d_Mod_task_17 : decode c_Mod_task 17 = .ok (.iload_n 2, 1) := by decide +kernel
theorem d_Mod_task_18 : decode c_Mod_task 18 = .ok (.ifCond .lt 8, 3) := by decide +kernel
theorem d_Mod_task_21 : decode c_Mod_task 21 = .ok (.iload_n 2, 1) := by decide +kernel
theorem d_Mod_task_22 : decode c_Mod_task 22 = .ok (.iconst 3, 1) := by decide +kernel
theorem d_Mod_task_23 : decode c_Mod_task 23 = .ok (.if_icmp .le 5, 3) := by decide +kernel
theorem d_Mod_task_26 : decode c_Mod_task 26 = .ok (.iconst (-1), 1) := by decide +kernel
theorem d_Mod_task_27 : decode c_Mod_task 27 = .ok (.ireturn, 1) := by decide +kernel
theorem d_Mod_task_28 : decode c_Mod_task 28 = .ok (.iload_n 2, 1) := by decide +kernel
theorem d_Mod_task_29 : decode c_Mod_task 29 = .ok (.ifCond .ne 12, 3) := by decide +kernel
theorem d_Mod_task_32 : decode c_Mod_task 32 = .ok (.aload_n 0, 1) := by decide +kernel
theorem d_Mod_task_33 : decode c_Mod_task 33 = .ok (.getfield 102, 3) := by decide +kernel
theorem d_Mod_task_36 : decode c_Mod_task 36 = .ok (.iload_n 1, 1) := by decide +kernel
theorem d_Mod_task_37 : decode c_Mod_task 37 = .ok (.iaload, 1) := by decide +kernel
theorem d_Mod_task_38 : decode c_Mod_task 38 = .ok (.goto 37, 3) := by decide +kernel
theorem d_Mod_task_41 : decode c_Mod_task 41 = .ok (.iload_n 2, 1) := by decide +kernel
theorem d_Mod_task_42 : decode c_Mod_task 42 = .ok (.iconst 1, 1) := by decide +kernel
theorem d_Mod_task_43 : decode c_Mod_task 43 = .ok (.if_icmp .ne 12, 3) := by decide +kernel
theorem d_Mod_task_46 : decode c_Mod_task 46 = .ok (.aload_n 0, 1) := by decide +kernel
theorem d_Mod_task_47 : decode c_Mod_task 47 = .ok (.getfield 87, 3) := by decide +kernel
theorem d_Mod_task_50 : decode c_Mod_task 50 = .ok (.iload_n 1, 1) := by decide +kernel
theorem d_Mod_task_51 : decode c_Mod_task 51 = .ok (.iaload, 1) := by decide +kernel
theorem d_Mod_task_52 : decode c_Mod_task 52 = .ok (.goto 23, 3) := by decide +kernel
theorem d_Mod_task_55 : decode c_Mod_task 55 = .ok (.iload_n 2, 1) := by decide +kernel
theorem d_Mod_task_56 : decode c_Mod_task 56 = .ok (.iconst 2, 1) := by decide +kernel
theorem d_Mod_task_57 : decode c_Mod_task 57 = .ok (.if_icmp .ne 12, 3) := by decide +kernel
theorem d_Mod_task_60 : decode c_Mod_task 60 = .ok (.aload_n 0, 1) := by decide +kernel
theorem d_Mod_task_61 : decode c_Mod_task 61 = .ok (.getfield 105, 3) := by decide +kernel
theorem d_Mod_task_64 : decode c_Mod_task 64 = .ok (.iload_n 1, 1) := by decide +kernel
theorem d_Mod_task_65 : decode c_Mod_task 65 = .ok (.iaload, 1) := by decide +kernel
theorem d_Mod_task_66 : decode c_Mod_task 66 = .ok (.goto 9, 3) := by decide +kernel
theorem d_Mod_task_69 : decode c_Mod_task 69 = .ok (.aload_n 0, 1) := by decide +kernel
theorem d_Mod_task_70 : decode c_Mod_task 70 = .ok (.getfield 108, 3) := by decide +kernel
theorem d_Mod_task_73 : decode c_Mod_task 73 = .ok (.iload_n 1, 1) := by decide +kernel
theorem d_Mod_task_74 : decode c_Mod_task 74 = .ok (.iaload, 1) := by decide +kernel
theorem d_Mod_task_75 : decode c_Mod_task 75 = .ok (.ireturn, 1) := by decide +kernel
