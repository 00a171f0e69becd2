/-! decode rows (by walk.py) -/
theorem d_Mod_init_0 : decode c_Mod_init 0 = .ok (.aload_n 0, 1) := by decide +kernel
theorem d_Mod_init_1 : decode c_Mod_init 1 = .ok (.invokespecial 1, 3) := by decide +kernel
theorem d_Mod_init_4 : decode c_Mod_init 4 = .ok (.aload_n 0, 1) := by decide +kernel
theorem d_Mod_init_5 : decode c_Mod_init 5 = .ok (.bipush 48, 2) := by decide +kernel
theorem d_Mod_init_7 : decode c_Mod_init 7 = .ok (.newarray .int, 2) := by decide +kernel
theorem d_Mod_init_9 : decode c_Mod_init 9 = .ok (.putfield 7, 3) := by decide +kernel
theorem d_Mod_init_12 : decode c_Mod_init 12 = .ok (.aload_n 0, 1) := by decide +kernel
theorem d_Mod_init_13 : decode c_Mod_init 13 = .ok (.bipush 48, 2) := by decide +kernel
theorem d_Mod_init_15 : decode c_Mod_init 15 = .ok (.newarray .int, 2) := by decide +kernel
theorem d_Mod_init_17 : decode c_Mod_init 17 = .ok (.putfield 13, 3) := by decide +kernel
theorem d_Mod_init_20 : decode c_Mod_init 20 = .ok (.aload_n 0, 1) := by decide +kernel
theorem d_Mod_init_21 : decode c_Mod_init 21 = .ok (.bipush 48, 2) := by decide +kernel
theorem d_Mod_init_23 : decode c_Mod_init 23 = .ok (.newarray .int, 2) := by decide +kernel
theorem d_Mod_init_25 : decode c_Mod_init 25 = .ok (.putfield 16, 3) := by decide +kernel
theorem d_Mod_init_28 : decode c_Mod_init 28 = .ok (.aload_n 0, 1) := by decide +kernel
theorem d_Mod_init_29 : decode c_Mod_init 29 = .ok (.bipush 48, 2) := by decide +kernel
theorem d_Mod_init_31 : decode c_Mod_init 31 = .ok (.newarray .int, 2) := by decide +kernel
theorem d_Mod_init_33 : decode c_Mod_init 33 = .ok (.putfield 19, 3) := by decide +kernel
theorem d_Mod_init_36 : decode c_Mod_init 36 = .ok (.aload_n 0, 1) := by decide +kernel
theorem d_Mod_init_37 : decode c_Mod_init 37 = .ok (.bipush 48, 2) := by decide +kernel
theorem d_Mod_init_39 : decode c_Mod_init 39 = .ok (.newarray .int, 2) := by decide +kernel
theorem d_Mod_init_41 : decode c_Mod_init 41 = .ok (.putfield 22, 3) := by decide +kernel
theorem d_Mod_init_44 : decode c_Mod_init 44 = .ok (.aload_n 0, 1) := by decide +kernel
theorem d_Mod_init_45 : decode c_Mod_init 45 = .ok (.bipush 48, 2) := by decide +kernel
theorem d_Mod_init_47 : decode c_Mod_init 47 = .ok (.newarray .int, 2) := by decide +kernel
theorem d_Mod_init_49 : decode c_Mod_init 49 = .ok (.putfield 25, 3) := by decide +kernel
theorem d_Mod_init_52 : decode c_Mod_init 52 = .ok (.aload_n 0, 1) := by decide +kernel
theorem d_Mod_init_53 : decode c_Mod_init 53 = .ok (.bipush 48, 2) := by decide +kernel
theorem d_Mod_init_55 : decode c_Mod_init 55 = .ok (.newarray .int, 2) := by decide +kernel
theorem d_Mod_init_57 : decode c_Mod_init 57 = .ok (.putfield 28, 3) := by decide +kernel
theorem d_Mod_init_60 : decode c_Mod_init 60 = .ok (.aload_n 0, 1) := by decide +kernel
theorem d_Mod_init_61 : decode c_Mod_init 61 = .ok (.bipush 48, 2) := by decide +kernel
theorem d_Mod_init_63 : decode c_Mod_init 63 = .ok (.newarray .int, 2) := by decide +kernel
theorem d_Mod_init_65 : decode c_Mod_init 65 = .ok (.putfield 31, 3) := by decide +kernel
theorem d_Mod_init_68 : decode c_Mod_init 68 = .ok (.aload_n 0, 1) := by decide +kernel
theorem d_Mod_init_69 : decode c_Mod_init 69 = .ok (.bipush 48, 2) := by decide +kernel
theorem d_Mod_init_71 : decode c_Mod_init 71 = .ok (.newarray .long, 2) := by decide +kernel
theorem d_Mod_init_73 : decode c_Mod_init 73 = .ok (.putfield 34, 3) := by decide +kernel
theorem d_Mod_init_76 : decode c_Mod_init 76 = .ok (.aload_n 0, 1) := by decide +kernel
theorem d_Mod_init_77 : decode c_Mod_init 77 = .ok (.bipush 48, 2) := by decide +kernel
theorem d_Mod_init_79 : decode c_Mod_init 79 = .ok (.newarray .boolean, 2) := by decide +kernel
theorem d_Mod_init_81 : decode c_Mod_init 81 = .ok (.putfield 38, 3) := by decide +kernel
theorem d_Mod_init_84 : decode c_Mod_init 84 = .ok (.aload_n 0, 1) := by decide +kernel
theorem d_Mod_init_85 : decode c_Mod_init 85 = .ok (.bipush 48, 2) := by decide +kernel
theorem d_Mod_init_87 : decode c_Mod_init 87 = .ok (.newarray .int, 2) := by decide +kernel
theorem d_Mod_init_89 : decode c_Mod_init 89 = .ok (.putfield 42, 3) := by decide +kernel
theorem d_Mod_init_92 : decode c_Mod_init 92 = .ok (.aload_n 0, 1) := by decide +kernel
theorem d_Mod_init_93 : decode c_Mod_init 93 = .ok (.bipush 48, 2) := by decide +kernel
theorem d_Mod_init_95 : decode c_Mod_init 95 = .ok (.newarray .boolean, 2) := by decide +kernel
theorem d_Mod_init_97 : decode c_Mod_init 97 = .ok (.putfield 45, 3) := by decide +kernel
theorem d_Mod_init_100 : decode c_Mod_init 100 = .ok (.aload_n 0, 1) := by decide +kernel
theorem d_Mod_init_101 : decode c_Mod_init 101 = .ok (.sipush 200, 3) := by decide +kernel
theorem d_Mod_init_104 : decode c_Mod_init 104 = .ok (.newarray .int, 2) := by decide +kernel
theorem d_Mod_init_106 : decode c_Mod_init 106 = .ok (.putfield 48, 3) := by decide +kernel
theorem d_Mod_init_109 : decode c_Mod_init 109 = .ok (.aload_n 0, 1) := by decide +kernel
theorem d_Mod_init_110 : decode c_Mod_init 110 = .ok (.bipush 48, 2) := by decide +kernel
theorem d_Mod_init_112 : decode c_Mod_init 112 = .ok (.newarray .int, 2) := by decide +kernel
theorem d_Mod_init_114 : decode c_Mod_init 114 = .ok (.putfield 51, 3) := by decide +kernel
theorem d_Mod_init_117 : decode c_Mod_init 117 = .ok (.aload_n 0, 1) := by decide +kernel
theorem d_Mod_init_118 : decode c_Mod_init 118 = .ok (.bipush 12, 2) := by decide +kernel
theorem d_Mod_init_120 : decode c_Mod_init 120 = .ok (.newarray .int, 2) := by decide +kernel
theorem d_Mod_init_122 : decode c_Mod_init 122 = .ok (.putfield 54, 3) := by decide +kernel
theorem d_Mod_init_125 : decode c_Mod_init 125 = .ok (.aload_n 0, 1) := by decide +kernel
theorem d_Mod_init_126 : decode c_Mod_init 126 = .ok (.bipush 12, 2) := by decide +kernel
theorem d_Mod_init_128 : decode c_Mod_init 128 = .ok (.newarray .int, 2) := by decide +kernel
theorem d_Mod_init_130 : decode c_Mod_init 130 = .ok (.putfield 57, 3) := by decide +kernel
theorem d_Mod_init_133 : decode c_Mod_init 133 = .ok (.aload_n 0, 1) := by decide +kernel
theorem d_Mod_init_134 : decode c_Mod_init 134 = .ok (.bipush 12, 2) := by decide +kernel
theorem d_Mod_init_136 : decode c_Mod_init 136 = .ok (.newarray .int, 2) := by decide +kernel
theorem d_Mod_init_138 : decode c_Mod_init 138 = .ok (.putfield 60, 3) := by decide +kernel
theorem d_Mod_init_141 : decode c_Mod_init 141 = .ok (.aload_n 0, 1) := by decide +kernel
theorem d_Mod_init_142 : decode c_Mod_init 142 = .ok (.bipush 12, 2) := by decide +kernel
theorem d_Mod_init_144 : decode c_Mod_init 144 = .ok (.newarray .int, 2) := by decide +kernel
theorem d_Mod_init_146 : decode c_Mod_init 146 = .ok (.putfield 63, 3) := by decide +kernel
theorem d_Mod_init_149 : decode c_Mod_init 149 = .ok (.aload_n 0, 1) := by decide +kernel
theorem d_Mod_init_150 : decode c_Mod_init 150 = .ok (.bipush 12, 2) := by decide +kernel
theorem d_Mod_init_152 : decode c_Mod_init 152 = .ok (.newarray .int, 2) := by decide +kernel
theorem d_Mod_init_154 : decode c_Mod_init 154 = .ok (.putfield 66, 3) := by decide +kernel
theorem d_Mod_init_157 : decode c_Mod_init 157 = .ok (.aload_n 0, 1) := by decide +kernel
theorem d_Mod_init_158 : decode c_Mod_init 158 = .ok (.bipush 12, 2) := by decide +kernel
theorem d_Mod_init_160 : decode c_Mod_init 160 = .ok (.newarray .boolean, 2) := by decide +kernel
theorem d_Mod_init_162 : decode c_Mod_init 162 = .ok (.putfield 69, 3) := by decide +kernel
theorem d_Mod_init_165 : decode c_Mod_init 165 = .ok (.aload_n 0, 1) := by decide +kernel
theorem d_Mod_init_166 : decode c_Mod_init 166 = .ok (.bipush 12, 2) := by decide +kernel
theorem d_Mod_init_168 : decode c_Mod_init 168 = .ok (.newarray .boolean, 2) := by decide +kernel
theorem d_Mod_init_170 : decode c_Mod_init 170 = .ok (.putfield 72, 3) := by decide +kernel
theorem d_Mod_init_173 : decode c_Mod_init 173 = .ok (.aload_n 0, 1) := by decide +kernel
theorem d_Mod_init_174 : decode c_Mod_init 174 = .ok (.bipush 12, 2) := by decide +kernel
theorem d_Mod_init_176 : decode c_Mod_init 176 = .ok (.newarray .int, 2) := by decide +kernel
theorem d_Mod_init_178 : decode c_Mod_init 178 = .ok (.putfield 75, 3) := by decide +kernel
theorem d_Mod_init_181 : decode c_Mod_init 181 = .ok (.aload_n 0, 1) := by decide +kernel
theorem d_Mod_init_182 : decode c_Mod_init 182 = .ok (.bipush 12, 2) := by decide +kernel
theorem d_Mod_init_184 : decode c_Mod_init 184 = .ok (.newarray .int, 2) := by decide +kernel
theorem d_Mod_init_186 : decode c_Mod_init 186 = .ok (.putfield 78, 3) := by decide +kernel
theorem d_Mod_init_189 : decode c_Mod_init 189 = .ok (.aload_n 0, 1) := by decide +kernel
theorem d_Mod_init_190 : decode c_Mod_init 190 = .ok (.bipush 48, 2) := by decide +kernel
theorem d_Mod_init_192 : decode c_Mod_init 192 = .ok (.newarray .boolean, 2) := by decide +kernel
theorem d_Mod_init_194 : decode c_Mod_init 194 = .ok (.putfield 81, 3) := by decide +kernel
theorem d_Mod_init_197 : decode c_Mod_init 197 = .ok (.aload_n 0, 1) := by decide +kernel
theorem d_Mod_init_198 : decode c_Mod_init 198 = .ok (.bipush 48, 2) := by decide +kernel
theorem d_Mod_init_200 : decode c_Mod_init 200 = .ok (.newarray .int, 2) := by decide +kernel
theorem d_Mod_init_202 : decode c_Mod_init 202 = .ok (.putfield 84, 3) := by decide +kernel
theorem d_Mod_init_205 : decode c_Mod_init 205 = .ok (.aload_n 0, 1) := by decide +kernel
theorem d_Mod_init_206 : decode c_Mod_init 206 = .ok (.bipush 30, 2) := by decide +kernel
theorem d_Mod_init_208 : decode c_Mod_init 208 = .ok (.newarray .int, 2) := by decide +kernel
theorem d_Mod_init_210 : decode c_Mod_init 210 = .ok (.putfield 87, 3) := by decide +kernel
theorem d_Mod_init_213 : decode c_Mod_init 213 = .ok (.aload_n 0, 1) := by decide +kernel
theorem d_Mod_init_214 : decode c_Mod_init 214 = .ok (.bipush 30, 2) := by decide +kernel
theorem d_Mod_init_216 : decode c_Mod_init 216 = .ok (.newarray .int, 2) := by decide +kernel
theorem d_Mod_init_218 : decode c_Mod_init 218 = .ok (.putfield 90, 3) := by decide +kernel
theorem d_Mod_init_221 : decode c_Mod_init 221 = .ok (.aload_n 0, 1) := by decide +kernel
theorem d_Mod_init_222 : decode c_Mod_init 222 = .ok (.bipush 30, 2) := by decide +kernel
theorem d_Mod_init_224 : decode c_Mod_init 224 = .ok (.newarray .int, 2) := by decide +kernel
theorem d_Mod_init_226 : decode c_Mod_init 226 = .ok (.putfield 93, 3) := by decide +kernel
theorem d_Mod_init_229 : decode c_Mod_init 229 = .ok (.aload_n 0, 1) := by decide +kernel
theorem d_Mod_init_230 : decode c_Mod_init 230 = .ok (.bipush 30, 2) := by decide +kernel
theorem d_Mod_init_232 : decode c_Mod_init 232 = .ok (.newarray .int, 2) := by decide +kernel
theorem d_Mod_init_234 : decode c_Mod_init 234 = .ok (.putfield 96, 3) := by decide +kernel
theorem d_Mod_init_237 : decode c_Mod_init 237 = .ok (.aload_n 0, 1) := by decide +kernel
theorem d_Mod_init_238 : decode c_Mod_init 238 = .ok (.bipush 30, 2) := by decide +kernel
theorem d_Mod_init_240 : decode c_Mod_init 240 = .ok (.newarray .int, 2) := by decide +kernel
theorem d_Mod_init_242 : decode c_Mod_init 242 = .ok (.putfield 99, 3) := by decide +kernel
theorem d_Mod_init_245 : decode c_Mod_init 245 = .ok (.aload_n 0, 1) := by decide +kernel
theorem d_Mod_init_246 : decode c_Mod_init 246 = .ok (.bipush 30, 2) := by decide +kernel
theorem d_Mod_init_248 : decode c_Mod_init 248 = .ok (.newarray .int, 2) := by decide +kernel
theorem d_Mod_init_250 : decode c_Mod_init 250 = .ok (.putfield 102, 3) := by decide +kernel
theorem d_Mod_init_253 : decode c_Mod_init 253 = .ok (.aload_n 0, 1) := by decide +kernel
theorem d_Mod_init_254 : decode c_Mod_init 254 = .ok (.bipush 30, 2) := by decide +kernel
theorem d_Mod_init_256 : decode c_Mod_init 256 = .ok (.newarray .int, 2) := by decide +kernel
theorem d_Mod_init_258 : decode c_Mod_init 258 = .ok (.putfield 105, 3) := by decide +kernel
theorem d_Mod_init_261 : decode c_Mod_init 261 = .ok (.aload_n 0, 1) := by decide +kernel
theorem d_Mod_init_262 : decode c_Mod_init 262 = .ok (.bipush 30, 2) := by decide +kernel
theorem d_Mod_init_264 : decode c_Mod_init 264 = .ok (.newarray .int, 2) := by decide +kernel
theorem d_Mod_init_266 : decode c_Mod_init 266 = .ok (.putfield 108, 3) := by decide +kernel
theorem d_Mod_init_269 : decode c_Mod_init 269 = .ok (.return_, 1) := by decide +kernel
theorem d_Mod_thrown_0 : decode c_Mod_thrown 0 = .ok (.aload_n 0, 1) := by decide +kernel
theorem d_Mod_thrown_1 : decode c_Mod_thrown 1 = .ok (.getfield 111, 3) := by decide +kernel
theorem d_Mod_thrown_4 : decode c_Mod_thrown 4 = .ok (.ireturn, 1) := by decide +kernel
theorem d_Mod_source_0 : decode c_Mod_source 0 = .ok (.aload_n 0, 1) := by decide +kernel
theorem d_Mod_source_1 : decode c_Mod_source 1 = .ok (.aload_n 0, 1) := by decide +kernel
theorem d_Mod_source_2 : decode c_Mod_source 2 = .ok (.getfield 121, 3) := by decide +kernel
theorem d_Mod_source_5 : decode c_Mod_source 5 = .ok (.bipush 48, 2) := by decide +kernel
theorem d_Mod_source_7 : decode c_Mod_source 7 = .ok (.if_icmp .ne 7, 3) := by decide +kernel
theorem d_Mod_source_10 : decode c_Mod_source 10 = .ok (.iconst 1, 1) := by decide +kernel
theorem d_Mod_source_11 : decode c_Mod_source 11 = .ok (.goto 4, 3) := by decide +kernel
theorem d_Mod_source_14 : decode c_Mod_source 14 = .ok (.iconst 0, 1) := by decide +kernel
theorem d_Mod_source_15 : decode c_Mod_source 15 = .ok (.putfield 111, 3) := by decide +kernel
theorem d_Mod_source_18 : decode c_Mod_source 18 = .ok (.aload_n 0, 1) := by decide +kernel
theorem d_Mod_source_19 : decode c_Mod_source 19 = .ok (.getfield 111, 3) := by decide +kernel
theorem d_Mod_source_22 : decode c_Mod_source 22 = .ok (.ifCond .le 7, 3) := by decide +kernel
theorem d_Mod_source_25 : decode c_Mod_source 25 = .ok (.iconst 0, 1) := by decide +kernel
theorem d_Mod_source_26 : decode c_Mod_source 26 = .ok (.goto 15, 3) := by decide +kernel
theorem d_Mod_source_29 : decode c_Mod_source 29 = .ok (.aload_n 0, 1) := by decide +kernel
theorem d_Mod_source_30 : decode c_Mod_source 30 = .ok (.bipush 9, 2) := by decide +kernel
theorem d_Mod_source_32 : decode c_Mod_source 32 = .ok (.iconst 0, 1) := by decide +kernel
theorem d_Mod_source_33 : decode c_Mod_source 33 = .ok (.iconst 0, 1) := by decide +kernel
theorem d_Mod_source_34 : decode c_Mod_source 34 = .ok (.lconst 0, 1) := by decide +kernel
theorem d_Mod_source_35 : decode c_Mod_source 35 = .ok (.iconst 0, 1) := by decide +kernel
theorem d_Mod_source_36 : decode c_Mod_source 36 = .ok (.iconst 0, 1) := by decide +kernel
theorem d_Mod_source_37 : decode c_Mod_source 37 = .ok (.iconst 0, 1) := by decide +kernel
theorem d_Mod_source_38 : decode c_Mod_source 38 = .ok (.invokevirtual 181, 3) := by decide +kernel
theorem d_Mod_source_41 : decode c_Mod_source 41 = .ok (.ireturn, 1) := by decide +kernel
theorem d_Mod_make_0 : decode c_Mod_make 0 = .ok (.aload_n 0, 1) := by decide +kernel
theorem d_Mod_make_1 : decode c_Mod_make 1 = .ok (.getfield 121, 3) := by decide +kernel
theorem d_Mod_make_4 : decode c_Mod_make 4 = .ok (.istore 9, 2) := by decide +kernel
theorem d_Mod_make_6 : decode c_Mod_make 6 = .ok (.aload_n 0, 1) := by decide +kernel
theorem d_Mod_make_7 : decode c_Mod_make 7 = .ok (.dup, 1) := by decide +kernel
theorem d_Mod_make_8 : decode c_Mod_make 8 = .ok (.getfield 121, 3) := by decide +kernel
theorem d_Mod_make_11 : decode c_Mod_make 11 = .ok (.iconst 1, 1) := by decide +kernel
theorem d_Mod_make_12 : decode c_Mod_make 12 = .ok (.iadd, 1) := by decide +kernel
theorem d_Mod_make_13 : decode c_Mod_make 13 = .ok (.putfield 121, 3) := by decide +kernel
theorem d_Mod_make_16 : decode c_Mod_make 16 = .ok (.aload_n 0, 1) := by decide +kernel
theorem d_Mod_make_17 : decode c_Mod_make 17 = .ok (.getfield 19, 3) := by decide +kernel
theorem d_Mod_make_20 : decode c_Mod_make 20 = .ok (.iload 9, 2) := by decide +kernel
theorem d_Mod_make_22 : decode c_Mod_make 22 = .ok (.iload_n 1, 1) := by decide +kernel
theorem d_Mod_make_23 : decode c_Mod_make 23 = .ok (.iastore, 1) := by decide +kernel
theorem d_Mod_make_24 : decode c_Mod_make 24 = .ok (.aload_n 0, 1) := by decide +kernel
theorem d_Mod_make_25 : decode c_Mod_make 25 = .ok (.getfield 28, 3) := by decide +kernel
theorem d_Mod_make_28 : decode c_Mod_make 28 = .ok (.iload 9, 2) := by decide +kernel
theorem d_Mod_make_30 : decode c_Mod_make 30 = .ok (.iload_n 2, 1) := by decide +kernel
theorem d_Mod_make_31 : decode c_Mod_make 31 = .ok (.iastore, 1) := by decide +kernel
theorem d_Mod_make_32 : decode c_Mod_make 32 = .ok (.aload_n 0, 1) := by decide +kernel
theorem d_Mod_make_33 : decode c_Mod_make 33 = .ok (.getfield 31, 3) := by decide +kernel
theorem d_Mod_make_36 : decode c_Mod_make 36 = .ok (.iload 9, 2) := by decide +kernel
theorem d_Mod_make_38 : decode c_Mod_make 38 = .ok (.iload_n 3, 1) := by decide +kernel
theorem d_Mod_make_39 : decode c_Mod_make 39 = .ok (.iastore, 1) := by decide +kernel
theorem d_Mod_make_40 : decode c_Mod_make 40 = .ok (.aload_n 0, 1) := by decide +kernel
theorem d_Mod_make_41 : decode c_Mod_make 41 = .ok (.getfield 34, 3) := by decide +kernel
theorem d_Mod_make_44 : decode c_Mod_make 44 = .ok (.iload 9, 2) := by decide +kernel
theorem d_Mod_make_46 : decode c_Mod_make 46 = .ok (.lload 4, 2) := by decide +kernel
theorem d_Mod_make_48 : decode c_Mod_make 48 = .ok (.lastore, 1) := by decide +kernel
theorem d_Mod_make_49 : decode c_Mod_make 49 = .ok (.aload_n 0, 1) := by decide +kernel
theorem d_Mod_make_50 : decode c_Mod_make 50 = .ok (.getfield 22, 3) := by decide +kernel
theorem d_Mod_make_53 : decode c_Mod_make 53 = .ok (.iload 9, 2) := by decide +kernel
theorem d_Mod_make_55 : decode c_Mod_make 55 = .ok (.iload 6, 2) := by decide +kernel
theorem d_Mod_make_57 : decode c_Mod_make 57 = .ok (.iastore, 1) := by decide +kernel
theorem d_Mod_make_58 : decode c_Mod_make 58 = .ok (.aload_n 0, 1) := by decide +kernel
theorem d_Mod_make_59 : decode c_Mod_make 59 = .ok (.getfield 25, 3) := by decide +kernel
theorem d_Mod_make_62 : decode c_Mod_make 62 = .ok (.iload 9, 2) := by decide +kernel
theorem d_Mod_make_64 : decode c_Mod_make 64 = .ok (.iload 7, 2) := by decide +kernel
theorem d_Mod_make_66 : decode c_Mod_make 66 = .ok (.iastore, 1) := by decide +kernel
theorem d_Mod_make_67 : decode c_Mod_make 67 = .ok (.aload_n 0, 1) := by decide +kernel
theorem d_Mod_make_68 : decode c_Mod_make 68 = .ok (.getfield 38, 3) := by decide +kernel
theorem d_Mod_make_71 : decode c_Mod_make 71 = .ok (.iload 9, 2) := by decide +kernel
theorem d_Mod_make_73 : decode c_Mod_make 73 = .ok (.iload 8, 2) := by decide +kernel
theorem d_Mod_make_75 : decode c_Mod_make 75 = .ok (.bastore, 1) := by decide +kernel
theorem d_Mod_make_76 : decode c_Mod_make 76 = .ok (.aload_n 0, 1) := by decide +kernel
theorem d_Mod_make_77 : decode c_Mod_make 77 = .ok (.getfield 42, 3) := by decide +kernel
theorem d_Mod_make_80 : decode c_Mod_make 80 = .ok (.iload 9, 2) := by decide +kernel
theorem d_Mod_make_82 : decode c_Mod_make 82 = .ok (.iconst (-1), 1) := by decide +kernel
theorem d_Mod_make_83 : decode c_Mod_make 83 = .ok (.iastore, 1) := by decide +kernel
theorem d_Mod_make_84 : decode c_Mod_make 84 = .ok (.aload_n 0, 1) := by decide +kernel
theorem d_Mod_make_85 : decode c_Mod_make 85 = .ok (.invokevirtual 144, 3) := by decide +kernel
theorem d_Mod_make_88 : decode c_Mod_make 88 = .ok (.iload 9, 2) := by decide +kernel
theorem d_Mod_make_90 : decode c_Mod_make 90 = .ok (.ireturn, 1) := by decide +kernel
theorem d_Mod_scan_0 : decode c_Mod_scan 0 = .ok (.iconst 0, 1) := by decide +kernel
theorem d_Mod_scan_1 : decode c_Mod_scan 1 = .ok (.istore_n 1, 1) := by decide +kernel
theorem d_Mod_scan_2 : decode c_Mod_scan 2 = .ok (.iload_n 1, 1) := by decide +kernel
theorem d_Mod_scan_3 : decode c_Mod_scan 3 = .ok (.aload_n 0, 1) := by decide +kernel
theorem d_Mod_scan_4 : decode c_Mod_scan 4 = .ok (.getfield 121, 3) := by decide +kernel
theorem d_Mod_scan_7 : decode c_Mod_scan 7 = .ok (.if_icmp .ge 102, 3) := by decide +kernel
theorem d_Mod_scan_10 : decode c_Mod_scan 10 = .ok (.aload_n 0, 1) := by decide +kernel
theorem d_Mod_scan_11 : decode c_Mod_scan 11 = .ok (.iload_n 1, 1) := by decide +kernel
theorem d_Mod_scan_12 : decode c_Mod_scan 12 = .ok (.invokevirtual 124, 3) := by decide +kernel
theorem d_Mod_scan_15 : decode c_Mod_scan 15 = .ok (.ifCond .ne 88, 3) := by decide +kernel
theorem d_Mod_scan_18 : decode c_Mod_scan 18 = .ok (.aload_n 0, 1) := by decide +kernel
theorem d_Mod_scan_19 : decode c_Mod_scan 19 = .ok (.getfield 45, 3) := by decide +kernel
theorem d_Mod_scan_22 : decode c_Mod_scan 22 = .ok (.iload_n 1, 1) := by decide +kernel
theorem d_Mod_scan_23 : decode c_Mod_scan 23 = .ok (.baload, 1) := by decide +kernel
theorem d_Mod_scan_24 : decode c_Mod_scan 24 = .ok (.ifCond .ne 79, 3) := by decide +kernel
theorem d_Mod_scan_27 : decode c_Mod_scan 27 = .ok (.aload_n 0, 1) := by decide +kernel
theorem d_Mod_scan_28 : decode c_Mod_scan 28 = .ok (.iload_n 1, 1) := by decide +kernel
theorem d_Mod_scan_29 : decode c_Mod_scan 29 = .ok (.invokevirtual 132, 3) := by decide +kernel
theorem d_Mod_scan_32 : decode c_Mod_scan 32 = .ok (.ifCond .eq 71, 3) := by decide +kernel
theorem d_Mod_scan_35 : decode c_Mod_scan 35 = .ok (.aload_n 0, 1) := by decide +kernel
theorem d_Mod_scan_36 : decode c_Mod_scan 36 = .ok (.getfield 45, 3) := by decide +kernel
theorem d_Mod_scan_39 : decode c_Mod_scan 39 = .ok (.iload_n 1, 1) := by decide +kernel
theorem d_Mod_scan_40 : decode c_Mod_scan 40 = .ok (.iconst 1, 1) := by decide +kernel
theorem d_Mod_scan_41 : decode c_Mod_scan 41 = .ok (.bastore, 1) := by decide +kernel
theorem d_Mod_scan_42 : decode c_Mod_scan 42 = .ok (.aload_n 0, 1) := by decide +kernel
theorem d_Mod_scan_43 : decode c_Mod_scan 43 = .ok (.getfield 38, 3) := by decide +kernel
theorem d_Mod_scan_46 : decode c_Mod_scan 46 = .ok (.iload_n 1, 1) := by decide +kernel
theorem d_Mod_scan_47 : decode c_Mod_scan 47 = .ok (.baload, 1) := by decide +kernel
theorem d_Mod_scan_48 : decode c_Mod_scan 48 = .ok (.ifCond .eq 35, 3) := by decide +kernel
theorem d_Mod_scan_51 : decode c_Mod_scan 51 = .ok (.aload_n 0, 1) := by decide +kernel
theorem d_Mod_scan_52 : decode c_Mod_scan 52 = .ok (.getfield 42, 3) := by decide +kernel
theorem d_Mod_scan_55 : decode c_Mod_scan 55 = .ok (.iload_n 1, 1) := by decide +kernel
theorem d_Mod_scan_56 : decode c_Mod_scan 56 = .ok (.iaload, 1) := by decide +kernel
theorem d_Mod_scan_57 : decode c_Mod_scan 57 = .ok (.ifCond .ge 26, 3) := by decide +kernel
theorem d_Mod_scan_60 : decode c_Mod_scan 60 = .ok (.aload_n 0, 1) := by decide +kernel
theorem d_Mod_scan_61 : decode c_Mod_scan 61 = .ok (.getfield 51, 3) := by decide +kernel
theorem d_Mod_scan_64 : decode c_Mod_scan 64 = .ok (.aload_n 0, 1) := by decide +kernel
theorem d_Mod_scan_65 : decode c_Mod_scan 65 = .ok (.getfield 135, 3) := by decide +kernel
theorem d_Mod_scan_68 : decode c_Mod_scan 68 = .ok (.iload_n 1, 1) := by decide +kernel
theorem d_Mod_scan_69 : decode c_Mod_scan 69 = .ok (.iastore, 1) := by decide +kernel
theorem d_Mod_scan_70 : decode c_Mod_scan 70 = .ok (.aload_n 0, 1) := by decide +kernel
theorem d_Mod_scan_71 : decode c_Mod_scan 71 = .ok (.dup, 1) := by decide +kernel
theorem d_Mod_scan_72 : decode c_Mod_scan 72 = .ok (.getfield 135, 3) := by decide +kernel
theorem d_Mod_scan_75 : decode c_Mod_scan 75 = .ok (.iconst 1, 1) := by decide +kernel
theorem d_Mod_scan_76 : decode c_Mod_scan 76 = .ok (.iadd, 1) := by decide +kernel
theorem d_Mod_scan_77 : decode c_Mod_scan 77 = .ok (.putfield 135, 3) := by decide +kernel
theorem d_Mod_scan_80 : decode c_Mod_scan 80 = .ok (.goto 23, 3) := by decide +kernel
theorem d_Mod_scan_83 : decode c_Mod_scan 83 = .ok (.aload_n 0, 1) := by decide +kernel
theorem d_Mod_scan_84 : decode c_Mod_scan 84 = .ok (.getfield 48, 3) := by decide +kernel
theorem d_Mod_scan_87 : decode c_Mod_scan 87 = .ok (.aload_n 0, 1) := by decide +kernel
theorem d_Mod_scan_88 : decode c_Mod_scan 88 = .ok (.getfield 138, 3) := by decide +kernel
theorem d_Mod_scan_91 : decode c_Mod_scan 91 = .ok (.iload_n 1, 1) := by decide +kernel
theorem d_Mod_scan_92 : decode c_Mod_scan 92 = .ok (.iastore, 1) := by decide +kernel
theorem d_Mod_scan_93 : decode c_Mod_scan 93 = .ok (.aload_n 0, 1) := by decide +kernel
theorem d_Mod_scan_94 : decode c_Mod_scan 94 = .ok (.dup, 1) := by decide +kernel
theorem d_Mod_scan_95 : decode c_Mod_scan 95 = .ok (.getfield 138, 3) := by decide +kernel
theorem d_Mod_scan_98 : decode c_Mod_scan 98 = .ok (.iconst 1, 1) := by decide +kernel
theorem d_Mod_scan_99 : decode c_Mod_scan 99 = .ok (.iadd, 1) := by decide +kernel
theorem d_Mod_scan_100 : decode c_Mod_scan 100 = .ok (.putfield 138, 3) := by decide +kernel
theorem d_Mod_scan_103 : decode c_Mod_scan 103 = .ok (.iinc 1 1, 3) := by decide +kernel
theorem d_Mod_scan_106 : decode c_Mod_scan 106 = .ok (.goto (-104), 3) := by decide +kernel
theorem d_Mod_scan_109 : decode c_Mod_scan 109 = .ok (.return_, 1) := by decide +kernel
theorem d_Mod_settled_0 : decode c_Mod_settled 0 = .ok (.aload_n 0, 1) := by decide +kernel
theorem d_Mod_settled_1 : decode c_Mod_settled 1 = .ok (.getfield 7, 3) := by decide +kernel
theorem d_Mod_settled_4 : decode c_Mod_settled 4 = .ok (.iload_n 1, 1) := by decide +kernel
theorem d_Mod_settled_5 : decode c_Mod_settled 5 = .ok (.iaload, 1) := by decide +kernel
theorem d_Mod_settled_6 : decode c_Mod_settled 6 = .ok (.ifCond .eq 7, 3) := by decide +kernel
theorem d_Mod_settled_9 : decode c_Mod_settled 9 = .ok (.iconst 1, 1) := by decide +kernel
theorem d_Mod_settled_10 : decode c_Mod_settled 10 = .ok (.goto 4, 3) := by decide +kernel
theorem d_Mod_settled_13 : decode c_Mod_settled 13 = .ok (.iconst 0, 1) := by decide +kernel
theorem d_Mod_settled_14 : decode c_Mod_settled 14 = .ok (.ireturn, 1) := by decide +kernel
theorem d_Mod_isAble_0 : decode c_Mod_isAble 0 = .ok (.aload_n 0, 1) := by decide +kernel
theorem d_Mod_isAble_1 : decode c_Mod_isAble 1 = .ok (.getfield 19, 3) := by decide +kernel
theorem d_Mod_isAble_4 : decode c_Mod_isAble 4 = .ok (.iload_n 1, 1) := by decide +kernel
theorem d_Mod_isAble_5 : decode c_Mod_isAble 5 = .ok (.iaload, 1) := by decide +kernel
theorem d_Mod_isAble_6 : decode c_Mod_isAble 6 = .ok (.istore_n 2, 1) := by decide +kernel
theorem d_Mod_isAble_7 : decode c_Mod_isAble 7 = .ok (.iload_n 2, 1) := by decide +kernel
theorem d_Mod_isAble_8 : decode c_Mod_isAble 8 = .ok (.bipush 9, 2) := by decide +kernel
theorem d_Mod_isAble_10 : decode c_Mod_isAble 10 = .ok (.if_icmp .ne 5, 3) := by decide +kernel
theorem d_Mod_isAble_13 : decode c_Mod_isAble 13 = .ok (.iconst 0, 1) := by decide +kernel
theorem d_Mod_isAble_14 : decode c_Mod_isAble 14 = .ok (.ireturn, 1) := by decide +kernel
theorem d_Mod_isAble_15 : decode c_Mod_isAble 15 = .ok (.aload_n 0, 1) := by decide +kernel
theorem d_Mod_isAble_16 : decode c_Mod_isAble 16 = .ok (.getfield 42, 3) := by decide +kernel
theorem d_Mod_isAble_19 : decode c_Mod_isAble 19 = .ok (.iload_n 1, 1) := by decide +kernel
theorem d_Mod_isAble_20 : decode c_Mod_isAble 20 = .ok (.iaload, 1) := by decide +kernel
theorem d_Mod_isAble_21 : decode c_Mod_isAble 21 = .ok (.ifCond .lt 14, 3) := by decide +kernel
theorem d_Mod_isAble_24 : decode c_Mod_isAble 24 = .ok (.aload_n 0, 1) := by decide +kernel
theorem d_Mod_isAble_25 : decode c_Mod_isAble 25 = .ok (.aload_n 0, 1) := by decide +kernel
theorem d_Mod_isAble_26 : decode c_Mod_isAble 26 = .ok (.getfield 42, 3) := by decide +kernel
theorem d_Mod_isAble_29 : decode c_Mod_isAble 29 = .ok (.iload_n 1, 1) := by decide +kernel
theorem d_Mod_isAble_30 : decode c_Mod_isAble 30 = .ok (.iaload, 1) := by decide +kernel
theorem d_Mod_isAble_31 : decode c_Mod_isAble 31 = .ok (.invokevirtual 124, 3) := by decide +kernel
theorem d_Mod_isAble_34 : decode c_Mod_isAble 34 = .ok (.ireturn, 1) := by decide +kernel
theorem d_Mod_isAble_35 : decode c_Mod_isAble 35 = .ok (.iload_n 2, 1) := by decide +kernel
theorem d_Mod_isAble_36 : decode c_Mod_isAble 36 = .ok (.bipush 6, 2) := by decide +kernel
theorem d_Mod_isAble_38 : decode c_Mod_isAble 38 = .ok (.if_icmp .le 20, 3) := by decide +kernel
theorem d_Mod_isAble_41 : decode c_Mod_isAble 41 = .ok (.aload_n 0, 1) := by decide +kernel
theorem d_Mod_isAble_42 : decode c_Mod_isAble 42 = .ok (.iload_n 1, 1) := by decide +kernel
theorem d_Mod_isAble_43 : decode c_Mod_isAble 43 = .ok (.iload_n 2, 1) := by decide +kernel
theorem d_Mod_isAble_44 : decode c_Mod_isAble 44 = .ok (.bipush 7, 2) := by decide +kernel
theorem d_Mod_isAble_46 : decode c_Mod_isAble 46 = .ok (.if_icmp .ne 7, 3) := by decide +kernel
theorem d_Mod_isAble_49 : decode c_Mod_isAble 49 = .ok (.iconst 1, 1) := by decide +kernel
theorem d_Mod_isAble_50 : decode c_Mod_isAble 50 = .ok (.goto 4, 3) := by decide +kernel
theorem d_Mod_isAble_53 : decode c_Mod_isAble 53 = .ok (.iconst 0, 1) := by decide +kernel
theorem d_Mod_isAble_54 : decode c_Mod_isAble 54 = .ok (.invokevirtual 128, 3) := by decide +kernel
theorem d_Mod_isAble_57 : decode c_Mod_isAble 57 = .ok (.ireturn, 1) := by decide +kernel
theorem d_Mod_isAble_58 : decode c_Mod_isAble 58 = .ok (.aload_n 0, 1) := by decide +kernel
theorem d_Mod_isAble_59 : decode c_Mod_isAble 59 = .ok (.aload_n 0, 1) := by decide +kernel
theorem d_Mod_isAble_60 : decode c_Mod_isAble 60 = .ok (.getfield 28, 3) := by decide +kernel
theorem d_Mod_isAble_63 : decode c_Mod_isAble 63 = .ok (.iload_n 1, 1) := by decide +kernel
theorem d_Mod_isAble_64 : decode c_Mod_isAble 64 = .ok (.iaload, 1) := by decide +kernel
theorem d_Mod_isAble_65 : decode c_Mod_isAble 65 = .ok (.invokevirtual 124, 3) := by decide +kernel
theorem d_Mod_isAble_68 : decode c_Mod_isAble 68 = .ok (.istore_n 3, 1) := by decide +kernel
theorem d_Mod_isAble_69 : decode c_Mod_isAble 69 = .ok (.iload_n 2, 1) := by decide +kernel
theorem d_Mod_isAble_70 : decode c_Mod_isAble 70 = .ok (.iconst 5, 1) := by decide +kernel
theorem d_Mod_isAble_71 : decode c_Mod_isAble 71 = .ok (.if_icmp .ge 7, 3) := by decide +kernel
theorem d_Mod_isAble_74 : decode c_Mod_isAble 74 = .ok (.iload_n 3, 1) := by decide +kernel
theorem d_Mod_isAble_75 : decode c_Mod_isAble 75 = .ok (.goto 55, 3) := by decide +kernel
theorem d_Mod_isAble_78 : decode c_Mod_isAble 78 = .ok (.iload_n 2, 1) := by decide +kernel
theorem d_Mod_isAble_79 : decode c_Mod_isAble 79 = .ok (.iconst 5, 1) := by decide +kernel
theorem d_Mod_isAble_80 : decode c_Mod_isAble 80 = .ok (.if_icmp .ne 28, 3) := by decide +kernel
theorem d_Mod_isAble_83 : decode c_Mod_isAble 83 = .ok (.iload_n 3, 1) := by decide +kernel
theorem d_Mod_isAble_84 : decode c_Mod_isAble 84 = .ok (.ifCond .eq 20, 3) := by decide +kernel
theorem d_Mod_isAble_87 : decode c_Mod_isAble 87 = .ok (.aload_n 0, 1) := by decide +kernel
theorem d_Mod_isAble_88 : decode c_Mod_isAble 88 = .ok (.aload_n 0, 1) := by decide +kernel
theorem d_Mod_isAble_89 : decode c_Mod_isAble 89 = .ok (.getfield 31, 3) := by decide +kernel
theorem d_Mod_isAble_92 : decode c_Mod_isAble 92 = .ok (.iload_n 1, 1) := by decide +kernel
theorem d_Mod_isAble_93 : decode c_Mod_isAble 93 = .ok (.iaload, 1) := by decide +kernel
theorem d_Mod_isAble_94 : decode c_Mod_isAble 94 = .ok (.invokevirtual 124, 3) := by decide +kernel
theorem d_Mod_isAble_97 : decode c_Mod_isAble 97 = .ok (.ifCond .eq 7, 3) := by decide +kernel
theorem d_Mod_isAble_100 : decode c_Mod_isAble 100 = .ok (.iconst 1, 1) := by decide +kernel
theorem d_Mod_isAble_101 : decode c_Mod_isAble 101 = .ok (.goto 29, 3) := by decide +kernel
theorem d_Mod_isAble_104 : decode c_Mod_isAble 104 = .ok (.iconst 0, 1) := by decide +kernel
theorem d_Mod_isAble_105 : decode c_Mod_isAble 105 = .ok (.goto 25, 3) := by decide +kernel
theorem d_Mod_isAble_108 : decode c_Mod_isAble 108 = .ok (.iload_n 3, 1) := by decide +kernel
theorem d_Mod_isAble_109 : decode c_Mod_isAble 109 = .ok (.ifCond .ne 16, 3) := by decide +kernel
theorem d_Mod_isAble_112 : decode c_Mod_isAble 112 = .ok (.aload_n 0, 1) := by decide +kernel
theorem d_Mod_isAble_113 : decode c_Mod_isAble 113 = .ok (.aload_n 0, 1) := by decide +kernel
theorem d_Mod_isAble_114 : decode c_Mod_isAble 114 = .ok (.getfield 31, 3) := by decide +kernel
theorem d_Mod_isAble_117 : decode c_Mod_isAble 117 = .ok (.iload_n 1, 1) := by decide +kernel
theorem d_Mod_isAble_118 : decode c_Mod_isAble 118 = .ok (.iaload, 1) := by decide +kernel
theorem d_Mod_isAble_119 : decode c_Mod_isAble 119 = .ok (.invokevirtual 124, 3) := by decide +kernel
theorem d_Mod_isAble_122 : decode c_Mod_isAble 122 = .ok (.ifCond .eq 7, 3) := by decide +kernel
theorem d_Mod_isAble_125 : decode c_Mod_isAble 125 = .ok (.iconst 1, 1) := by decide +kernel
theorem d_Mod_isAble_126 : decode c_Mod_isAble 126 = .ok (.goto 4, 3) := by decide +kernel
theorem d_Mod_isAble_129 : decode c_Mod_isAble 129 = .ok (.iconst 0, 1) := by decide +kernel
theorem d_Mod_isAble_130 : decode c_Mod_isAble 130 = .ok (.ireturn, 1) := by decide +kernel
theorem d_Mod_come_0 : decode c_Mod_come 0 = .ok (.iconst 0, 1) := by decide +kernel
theorem d_Mod_come_1 : decode c_Mod_come 1 = .ok (.istore_n 3, 1) := by decide +kernel
theorem d_Mod_come_2 : decode c_Mod_come 2 = .ok (.iconst 0, 1) := by decide +kernel
theorem d_Mod_come_3 : decode c_Mod_come 3 = .ok (.istore 4, 2) := by decide +kernel
theorem d_Mod_come_5 : decode c_Mod_come 5 = .ok (.iconst 0, 1) := by decide +kernel
theorem d_Mod_come_6 : decode c_Mod_come 6 = .ok (.istore 5, 2) := by decide +kernel
theorem d_Mod_come_8 : decode c_Mod_come 8 = .ok (.iload 5, 2) := by decide +kernel
theorem d_Mod_come_10 : decode c_Mod_come 10 = .ok (.aload_n 0, 1) := by decide +kernel
theorem d_Mod_come_11 : decode c_Mod_come 11 = .ok (.getfield 121, 3) := by decide +kernel
theorem d_Mod_come_14 : decode c_Mod_come 14 = .ok (.if_icmp .ge 47, 3) := by decide +kernel
theorem d_Mod_come_17 : decode c_Mod_come 17 = .ok (.aload_n 0, 1) := by decide +kernel
theorem d_Mod_come_18 : decode c_Mod_come 18 = .ok (.getfield 34, 3) := by decide +kernel
theorem d_Mod_come_21 : decode c_Mod_come 21 = .ok (.iload_n 1, 1) := by decide +kernel
theorem d_Mod_come_22 : decode c_Mod_come 22 = .ok (.laload, 1) := by decide +kernel
theorem d_Mod_come_23 : decode c_Mod_come 23 = .ok (.iload 5, 2) := by decide +kernel
theorem d_Mod_come_25 : decode c_Mod_come 25 = .ok (.lshr, 1) := by decide +kernel
theorem d_Mod_come_26 : decode c_Mod_come 26 = .ok (.lconst 1, 1) := by decide +kernel
theorem d_Mod_come_27 : decode c_Mod_come 27 = .ok (.land, 1) := by decide +kernel
theorem d_Mod_come_28 : decode c_Mod_come 28 = .ok (.lconst 1, 1) := by decide +kernel
theorem d_Mod_come_29 : decode c_Mod_come 29 = .ok (.lcmp, 1) := by decide +kernel
theorem d_Mod_come_30 : decode c_Mod_come 30 = .ok (.ifCond .ne 25, 3) := by decide +kernel
theorem d_Mod_come_33 : decode c_Mod_come 33 = .ok (.iinc 3 1, 3) := by decide +kernel
theorem d_Mod_come_36 : decode c_Mod_come 36 = .ok (.iload 4, 2) := by decide +kernel
theorem d_Mod_come_38 : decode c_Mod_come 38 = .ok (.aload_n 0, 1) := by decide +kernel
theorem d_Mod_come_39 : decode c_Mod_come 39 = .ok (.iload 5, 2) := by decide +kernel
theorem d_Mod_come_41 : decode c_Mod_come 41 = .ok (.invokevirtual 124, 3) := by decide +kernel
theorem d_Mod_come_44 : decode c_Mod_come 44 = .ok (.ifCond .eq 7, 3) := by decide +kernel
theorem d_Mod_come_47 : decode c_Mod_come 47 = .ok (.iconst 1, 1) := by decide +kernel
theorem d_Mod_come_48 : decode c_Mod_come 48 = .ok (.goto 4, 3) := by decide +kernel
theorem d_Mod_come_51 : decode c_Mod_come 51 = .ok (.iconst 0, 1) := by decide +kernel
theorem d_Mod_come_52 : decode c_Mod_come 52 = .ok (.iadd, 1) := by decide +kernel
theorem d_Mod_come_53 : decode c_Mod_come 53 = .ok (.istore 4, 2) := by decide +kernel
theorem d_Mod_come_55 : decode c_Mod_come 55 = .ok (.iinc 5 1, 3) := by decide +kernel
theorem d_Mod_come_58 : decode c_Mod_come 58 = .ok (.goto (-50), 3) := by decide +kernel
theorem d_Mod_come_61 : decode c_Mod_come 61 = .ok (.iload_n 2, 1) := by decide +kernel
theorem d_Mod_come_62 : decode c_Mod_come 62 = .ok (.ifCond .eq 17, 3) := by decide +kernel
theorem d_Mod_come_65 : decode c_Mod_come 65 = .ok (.iload 4, 2) := by decide +kernel
theorem d_Mod_come_67 : decode c_Mod_come 67 = .ok (.iload_n 3, 1) := by decide +kernel
theorem d_Mod_come_68 : decode c_Mod_come 68 = .ok (.if_icmp .ne 7, 3) := by decide +kernel
theorem d_Mod_come_71 : decode c_Mod_come 71 = .ok (.iconst 1, 1) := by decide +kernel
theorem d_Mod_come_72 : decode c_Mod_come 72 = .ok (.goto 17, 3) := by decide +kernel
theorem d_Mod_come_75 : decode c_Mod_come 75 = .ok (.iconst 0, 1) := by decide +kernel
theorem d_Mod_come_76 : decode c_Mod_come 76 = .ok (.goto 13, 3) := by decide +kernel
theorem d_Mod_come_79 : decode c_Mod_come 79 = .ok (.iload 4, 2) := by decide +kernel
theorem d_Mod_come_81 : decode c_Mod_come 81 = .ok (.ifCond .le 7, 3) := by decide +kernel
theorem d_Mod_come_84 : decode c_Mod_come 84 = .ok (.iconst 1, 1) := by decide +kernel
theorem d_Mod_come_85 : decode c_Mod_come 85 = .ok (.goto 4, 3) := by decide +kernel
theorem d_Mod_come_88 : decode c_Mod_come 88 = .ok (.iconst 0, 1) := by decide +kernel
theorem d_Mod_come_89 : decode c_Mod_come 89 = .ok (.ireturn, 1) := by decide +kernel
theorem d_Mod_then_0 : decode c_Mod_then 0 = .ok (.aload_n 0, 1) := by decide +kernel
theorem d_Mod_then_1 : decode c_Mod_then 1 = .ok (.iload_n 2, 1) := by decide +kernel
theorem d_Mod_then_2 : decode c_Mod_then 2 = .ok (.ifCond .lt 25, 3) := by decide +kernel
theorem d_Mod_then_5 : decode c_Mod_then 5 = .ok (.iload_n 2, 1) := by decide +kernel
theorem d_Mod_then_6 : decode c_Mod_then 6 = .ok (.iconst 4, 1) := by decide +kernel
theorem d_Mod_then_7 : decode c_Mod_then 7 = .ok (.if_icmp .gt 20, 3) := by decide +kernel
theorem d_Mod_then_10 : decode c_Mod_then 10 = .ok (.iload_n 3, 1) := by decide +kernel
theorem d_Mod_then_11 : decode c_Mod_then 11 = .ok (.ifCond .lt 16, 3) := by decide +kernel
theorem d_Mod_then_14 : decode c_Mod_then 14 = .ok (.iload_n 3, 1) := by decide +kernel
theorem d_Mod_then_15 : decode c_Mod_then 15 = .ok (.iconst 5, 1) := by decide +kernel
theorem d_Mod_then_16 : decode c_Mod_then 16 = .ok (.if_icmp .gt 11, 3) := by decide +kernel
theorem d_Mod_then_19 : decode c_Mod_then 19 = .ok (.aload_n 0, 1) := by decide +kernel
theorem d_Mod_then_20 : decode c_Mod_then 20 = .ok (.iload_n 1, 1) := by decide +kernel
theorem d_Mod_then_21 : decode c_Mod_then 21 = .ok (.invokevirtual 162, 3) := by decide +kernel
theorem d_Mod_then_24 : decode c_Mod_then 24 = .ok (.ifCond .ne 7, 3) := by decide +kernel
theorem d_Mod_then_27 : decode c_Mod_then 27 = .ok (.iconst 1, 1) := by decide +kernel
theorem d_Mod_then_28 : decode c_Mod_then 28 = .ok (.goto 17, 3) := by decide +kernel
theorem d_Mod_then_31 : decode c_Mod_then 31 = .ok (.aload_n 0, 1) := by decide +kernel
theorem d_Mod_then_32 : decode c_Mod_then 32 = .ok (.getfield 121, 3) := by decide +kernel
theorem d_Mod_then_35 : decode c_Mod_then 35 = .ok (.bipush 48, 2) := by decide +kernel
theorem d_Mod_then_37 : decode c_Mod_then 37 = .ok (.if_icmp .ne 7, 3) := by decide +kernel
theorem d_Mod_then_40 : decode c_Mod_then 40 = .ok (.iconst 2, 1) := by decide +kernel
theorem d_Mod_then_41 : decode c_Mod_then 41 = .ok (.goto 4, 3) := by decide +kernel
theorem d_Mod_then_44 : decode c_Mod_then 44 = .ok (.iconst 0, 1) := by decide +kernel
theorem d_Mod_then_45 : decode c_Mod_then 45 = .ok (.putfield 111, 3) := by decide +kernel
theorem d_Mod_then_48 : decode c_Mod_then 48 = .ok (.aload_n 0, 1) := by decide +kernel
theorem d_Mod_then_49 : decode c_Mod_then 49 = .ok (.getfield 111, 3) := by decide +kernel
theorem d_Mod_then_52 : decode c_Mod_then 52 = .ok (.ifCond .le 5, 3) := by decide +kernel
theorem d_Mod_then_55 : decode c_Mod_then 55 = .ok (.iconst 0, 1) := by decide +kernel
theorem d_Mod_then_56 : decode c_Mod_then 56 = .ok (.ireturn, 1) := by decide +kernel
theorem d_Mod_then_57 : decode c_Mod_then 57 = .ok (.aload_n 0, 1) := by decide +kernel
theorem d_Mod_then_58 : decode c_Mod_then 58 = .ok (.iload_n 2, 1) := by decide +kernel
theorem d_Mod_then_59 : decode c_Mod_then 59 = .ok (.iload_n 1, 1) := by decide +kernel
theorem d_Mod_then_60 : decode c_Mod_then 60 = .ok (.iload_n 1, 1) := by decide +kernel
theorem d_Mod_then_61 : decode c_Mod_then 61 = .ok (.lconst 0, 1) := by decide +kernel
theorem d_Mod_then_62 : decode c_Mod_then 62 = .ok (.iload_n 3, 1) := by decide +kernel
theorem d_Mod_then_63 : decode c_Mod_then 63 = .ok (.iload 4, 2) := by decide +kernel
theorem d_Mod_then_65 : decode c_Mod_then 65 = .ok (.iload 5, 2) := by decide +kernel
theorem d_Mod_then_67 : decode c_Mod_then 67 = .ok (.invokevirtual 181, 3) := by decide +kernel
theorem d_Mod_then_70 : decode c_Mod_then 70 = .ok (.istore 6, 2) := by decide +kernel
theorem d_Mod_then_72 : decode c_Mod_then 72 = .ok (.aload_n 0, 1) := by decide +kernel
theorem d_Mod_then_73 : decode c_Mod_then 73 = .ok (.invokevirtual 185, 3) := by decide +kernel
theorem d_Mod_then_76 : decode c_Mod_then 76 = .ok (.iload 6, 2) := by decide +kernel
theorem d_Mod_then_78 : decode c_Mod_then 78 = .ok (.ireturn, 1) := by decide +kernel
theorem d_Mod_isStage_0 : decode c_Mod_isStage 0 = .ok (.iload_n 1, 1) := by decide +kernel
theorem d_Mod_isStage_1 : decode c_Mod_isStage 1 = .ok (.ifCond .lt 15, 3) := by decide +kernel
theorem d_Mod_isStage_4 : decode c_Mod_isStage 4 = .ok (.iload_n 1, 1) := by decide +kernel
theorem d_Mod_isStage_5 : decode c_Mod_isStage 5 = .ok (.aload_n 0, 1) := by decide +kernel
theorem d_Mod_isStage_6 : decode c_Mod_isStage 6 = .ok (.getfield 121, 3) := by decide +kernel
theorem d_Mod_isStage_9 : decode c_Mod_isStage 9 = .ok (.if_icmp .ge 7, 3) := by decide +kernel
theorem d_Mod_isStage_12 : decode c_Mod_isStage 12 = .ok (.iconst 1, 1) := by decide +kernel
theorem d_Mod_isStage_13 : decode c_Mod_isStage 13 = .ok (.goto 4, 3) := by decide +kernel
theorem d_Mod_isStage_16 : decode c_Mod_isStage 16 = .ok (.iconst 0, 1) := by decide +kernel
theorem d_Mod_isStage_17 : decode c_Mod_isStage 17 = .ok (.ireturn, 1) := by decide +kernel
theorem d_Mod_workOff_0 : decode c_Mod_workOff 0 = .ok (.aload_n 0, 1) := by decide +kernel
theorem d_Mod_workOff_1 : decode c_Mod_workOff 1 = .ok (.getfield 175, 3) := by decide +kernel
theorem d_Mod_workOff_4 : decode c_Mod_workOff 4 = .ok (.aload_n 0, 1) := by decide +kernel
theorem d_Mod_workOff_5 : decode c_Mod_workOff 5 = .ok (.getfield 138, 3) := by decide +kernel
theorem d_Mod_workOff_8 : decode c_Mod_workOff 8 = .ok (.if_icmp .ge 31, 3) := by decide +kernel
theorem d_Mod_workOff_11 : decode c_Mod_workOff 11 = .ok (.aload_n 0, 1) := by decide +kernel
theorem d_Mod_workOff_12 : decode c_Mod_workOff 12 = .ok (.getfield 48, 3) := by decide +kernel
theorem d_Mod_workOff_15 : decode c_Mod_workOff 15 = .ok (.aload_n 0, 1) := by decide +kernel
theorem d_Mod_workOff_16 : decode c_Mod_workOff 16 = .ok (.getfield 175, 3) := by decide +kernel
theorem d_Mod_workOff_19 : decode c_Mod_workOff 19 = .ok (.iaload, 1) := by decide +kernel
theorem d_Mod_workOff_20 : decode c_Mod_workOff 20 = .ok (.istore_n 1, 1) := by decide +kernel
theorem d_Mod_workOff_21 : decode c_Mod_workOff 21 = .ok (.aload_n 0, 1) := by decide +kernel
theorem d_Mod_workOff_22 : decode c_Mod_workOff 22 = .ok (.dup, 1) := by decide +kernel
theorem d_Mod_workOff_23 : decode c_Mod_workOff 23 = .ok (.getfield 175, 3) := by decide +kernel
theorem d_Mod_workOff_26 : decode c_Mod_workOff 26 = .ok (.iconst 1, 1) := by decide +kernel
theorem d_Mod_workOff_27 : decode c_Mod_workOff 27 = .ok (.iadd, 1) := by decide +kernel
theorem d_Mod_workOff_28 : decode c_Mod_workOff 28 = .ok (.putfield 175, 3) := by decide +kernel
theorem d_Mod_workOff_31 : decode c_Mod_workOff 31 = .ok (.aload_n 0, 1) := by decide +kernel
theorem d_Mod_workOff_32 : decode c_Mod_workOff 32 = .ok (.iload_n 1, 1) := by decide +kernel
theorem d_Mod_workOff_33 : decode c_Mod_workOff 33 = .ok (.invokevirtual 178, 3) := by decide +kernel
theorem d_Mod_workOff_36 : decode c_Mod_workOff 36 = .ok (.goto (-36), 3) := by decide +kernel
theorem d_Mod_workOff_39 : decode c_Mod_workOff 39 = .ok (.aload_n 0, 1) := by decide +kernel
theorem d_Mod_workOff_40 : decode c_Mod_workOff 40 = .ok (.iconst 0, 1) := by decide +kernel
theorem d_Mod_workOff_41 : decode c_Mod_workOff 41 = .ok (.putfield 175, 3) := by decide +kernel
theorem d_Mod_workOff_44 : decode c_Mod_workOff 44 = .ok (.aload_n 0, 1) := by decide +kernel
theorem d_Mod_workOff_45 : decode c_Mod_workOff 45 = .ok (.iconst 0, 1) := by decide +kernel
theorem d_Mod_workOff_46 : decode c_Mod_workOff 46 = .ok (.putfield 138, 3) := by decide +kernel
theorem d_Mod_workOff_49 : decode c_Mod_workOff 49 = .ok (.return_, 1) := by decide +kernel
theorem d_Mod_resolve_0 : decode c_Mod_resolve 0 = .ok (.aload_n 0, 1) := by decide +kernel
theorem d_Mod_resolve_1 : decode c_Mod_resolve 1 = .ok (.getfield 45, 3) := by decide +kernel
theorem d_Mod_resolve_4 : decode c_Mod_resolve 4 = .ok (.iload_n 1, 1) := by decide +kernel
theorem d_Mod_resolve_5 : decode c_Mod_resolve 5 = .ok (.iconst 0, 1) := by decide +kernel
theorem d_Mod_resolve_6 : decode c_Mod_resolve 6 = .ok (.bastore, 1) := by decide +kernel
theorem d_Mod_resolve_7 : decode c_Mod_resolve 7 = .ok (.aload_n 0, 1) := by decide +kernel
theorem d_Mod_resolve_8 : decode c_Mod_resolve 8 = .ok (.iload_n 1, 1) := by decide +kernel
theorem d_Mod_resolve_9 : decode c_Mod_resolve 9 = .ok (.invokevirtual 124, 3) := by decide +kernel
theorem d_Mod_resolve_12 : decode c_Mod_resolve 12 = .ok (.ifCond .eq 4, 3) := by decide +kernel
theorem d_Mod_resolve_15 : decode c_Mod_resolve 15 = .ok (.return_, 1) := by decide +kernel
theorem d_Mod_resolve_16 : decode c_Mod_resolve 16 = .ok (.aload_n 0, 1) := by decide +kernel
theorem d_Mod_resolve_17 : decode c_Mod_resolve 17 = .ok (.getfield 19, 3) := by decide +kernel
theorem d_Mod_resolve_20 : decode c_Mod_resolve 20 = .ok (.iload_n 1, 1) := by decide +kernel
theorem d_Mod_resolve_21 : decode c_Mod_resolve 21 = .ok (.iaload, 1) := by decide +kernel
theorem d_Mod_resolve_22 : decode c_Mod_resolve 22 = .ok (.istore_n 2, 1) := by decide +kernel
theorem d_Mod_resolve_23 : decode c_Mod_resolve 23 = .ok (.aload_n 0, 1) := by decide +kernel
theorem d_Mod_resolve_24 : decode c_Mod_resolve 24 = .ok (.getfield 28, 3) := by decide +kernel
theorem d_Mod_resolve_27 : decode c_Mod_resolve 27 = .ok (.iload_n 1, 1) := by decide +kernel
theorem d_Mod_resolve_28 : decode c_Mod_resolve 28 = .ok (.iaload, 1) := by decide +kernel
theorem d_Mod_resolve_29 : decode c_Mod_resolve 29 = .ok (.istore_n 3, 1) := by decide +kernel
theorem d_Mod_resolve_30 : decode c_Mod_resolve 30 = .ok (.aload_n 0, 1) := by decide +kernel
theorem d_Mod_resolve_31 : decode c_Mod_resolve 31 = .ok (.getfield 31, 3) := by decide +kernel
theorem d_Mod_resolve_34 : decode c_Mod_resolve 34 = .ok (.iload_n 1, 1) := by decide +kernel
theorem d_Mod_resolve_35 : decode c_Mod_resolve 35 = .ok (.iaload, 1) := by decide +kernel
theorem d_Mod_resolve_36 : decode c_Mod_resolve 36 = .ok (.istore 4, 2) := by decide +kernel
theorem d_Mod_resolve_38 : decode c_Mod_resolve 38 = .ok (.aload_n 0, 1) := by decide +kernel
theorem d_Mod_resolve_39 : decode c_Mod_resolve 39 = .ok (.getfield 42, 3) := by decide +kernel
theorem d_Mod_resolve_42 : decode c_Mod_resolve 42 = .ok (.iload_n 1, 1) := by decide +kernel
theorem d_Mod_resolve_43 : decode c_Mod_resolve 43 = .ok (.iaload, 1) := by decide +kernel
theorem d_Mod_resolve_44 : decode c_Mod_resolve 44 = .ok (.ifCond .lt 17, 3) := by decide +kernel
theorem d_Mod_resolve_47 : decode c_Mod_resolve 47 = .ok (.aload_n 0, 1) := by decide +kernel
theorem d_Mod_resolve_48 : decode c_Mod_resolve 48 = .ok (.iload_n 1, 1) := by decide +kernel
theorem d_Mod_resolve_49 : decode c_Mod_resolve 49 = .ok (.aload_n 0, 1) := by decide +kernel
theorem d_Mod_resolve_50 : decode c_Mod_resolve 50 = .ok (.getfield 42, 3) := by decide +kernel
theorem d_Mod_resolve_53 : decode c_Mod_resolve 53 = .ok (.iload_n 1, 1) := by decide +kernel
theorem d_Mod_resolve_54 : decode c_Mod_resolve 54 = .ok (.iaload, 1) := by decide +kernel
theorem d_Mod_resolve_55 : decode c_Mod_resolve 55 = .ok (.invokevirtual 151, 3) := by decide +kernel
theorem d_Mod_resolve_58 : decode c_Mod_resolve 58 = .ok (.goto 199, 3) := by decide +kernel
theorem d_Mod_resolve_61 : decode c_Mod_resolve 61 = .ok (.iload_n 2, 1) := by decide +kernel
theorem d_Mod_resolve_62 : decode c_Mod_resolve 62 = .ok (.iconst 5, 1) := by decide +kernel
theorem d_Mod_resolve_63 : decode c_Mod_resolve 63 = .ok (.if_icmp .ge 12, 3) := by decide +kernel
theorem d_Mod_resolve_66 : decode c_Mod_resolve 66 = .ok (.aload_n 0, 1) := by decide +kernel
theorem d_Mod_resolve_67 : decode c_Mod_resolve 67 = .ok (.iload_n 1, 1) := by decide +kernel
theorem d_Mod_resolve_68 : decode c_Mod_resolve 68 = .ok (.iload_n 3, 1) := by decide +kernel
theorem d_Mod_resolve_69 : decode c_Mod_resolve 69 = .ok (.invokevirtual 165, 3) := by decide +kernel
theorem d_Mod_resolve_72 : decode c_Mod_resolve 72 = .ok (.goto 185, 3) := by decide +kernel
theorem d_Mod_resolve_75 : decode c_Mod_resolve 75 = .ok (.iload_n 2, 1) := by decide +kernel
theorem d_Mod_resolve_76 : decode c_Mod_resolve 76 = .ok (.iconst 5, 1) := by decide +kernel
theorem d_Mod_resolve_77 : decode c_Mod_resolve 77 = .ok (.if_icmp .ne 62, 3) := by decide +kernel
theorem d_Mod_resolve_80 : decode c_Mod_resolve 80 = .ok (.aload_n 0, 1) := by decide +kernel
theorem d_Mod_resolve_81 : decode c_Mod_resolve 81 = .ok (.getfield 7, 3) := by decide +kernel
theorem d_Mod_resolve_84 : decode c_Mod_resolve 84 = .ok (.iload_n 3, 1) := by decide +kernel
theorem d_Mod_resolve_85 : decode c_Mod_resolve 85 = .ok (.iaload, 1) := by decide +kernel
theorem d_Mod_resolve_86 : decode c_Mod_resolve 86 = .ok (.iconst 1, 1) := by decide +kernel
theorem d_Mod_resolve_87 : decode c_Mod_resolve 87 = .ok (.if_icmp .ne 52, 3) := by decide +kernel
theorem d_Mod_resolve_90 : decode c_Mod_resolve 90 = .ok (.aload_n 0, 1) := by decide +kernel
theorem d_Mod_resolve_91 : decode c_Mod_resolve 91 = .ok (.getfield 7, 3) := by decide +kernel
theorem d_Mod_resolve_94 : decode c_Mod_resolve 94 = .ok (.iload 4, 2) := by decide +kernel
theorem d_Mod_resolve_96 : decode c_Mod_resolve 96 = .ok (.iaload, 1) := by decide +kernel
theorem d_Mod_resolve_97 : decode c_Mod_resolve 97 = .ok (.iconst 1, 1) := by decide +kernel
theorem d_Mod_resolve_98 : decode c_Mod_resolve 98 = .ok (.if_icmp .ne 41, 3) := by decide +kernel
theorem d_Mod_resolve_101 : decode c_Mod_resolve 101 = .ok (.aload_n 0, 1) := by decide +kernel
theorem d_Mod_resolve_102 : decode c_Mod_resolve 102 = .ok (.aload_n 0, 1) := by decide +kernel
theorem d_Mod_resolve_103 : decode c_Mod_resolve 103 = .ok (.getfield 22, 3) := by decide +kernel
theorem d_Mod_resolve_106 : decode c_Mod_resolve 106 = .ok (.iload_n 1, 1) := by decide +kernel
theorem d_Mod_resolve_107 : decode c_Mod_resolve 107 = .ok (.iaload, 1) := by decide +kernel
theorem d_Mod_resolve_108 : decode c_Mod_resolve 108 = .ok (.aload_n 0, 1) := by decide +kernel
theorem d_Mod_resolve_109 : decode c_Mod_resolve 109 = .ok (.getfield 25, 3) := by decide +kernel
theorem d_Mod_resolve_112 : decode c_Mod_resolve 112 = .ok (.iload_n 1, 1) := by decide +kernel
theorem d_Mod_resolve_113 : decode c_Mod_resolve 113 = .ok (.iaload, 1) := by decide +kernel
theorem d_Mod_resolve_114 : decode c_Mod_resolve 114 = .ok (.aload_n 0, 1) := by decide +kernel
theorem d_Mod_resolve_115 : decode c_Mod_resolve 115 = .ok (.getfield 13, 3) := by decide +kernel
theorem d_Mod_resolve_118 : decode c_Mod_resolve 118 = .ok (.iload_n 3, 1) := by decide +kernel
theorem d_Mod_resolve_119 : decode c_Mod_resolve 119 = .ok (.iaload, 1) := by decide +kernel
theorem d_Mod_resolve_120 : decode c_Mod_resolve 120 = .ok (.aload_n 0, 1) := by decide +kernel
theorem d_Mod_resolve_121 : decode c_Mod_resolve 121 = .ok (.getfield 13, 3) := by decide +kernel
theorem d_Mod_resolve_124 : decode c_Mod_resolve 124 = .ok (.iload 4, 2) := by decide +kernel
theorem d_Mod_resolve_126 : decode c_Mod_resolve 126 = .ok (.iaload, 1) := by decide +kernel
theorem d_Mod_resolve_127 : decode c_Mod_resolve 127 = .ok (.iadd, 1) := by decide +kernel
theorem d_Mod_resolve_128 : decode c_Mod_resolve 128 = .ok (.invokevirtual 155, 3) := by decide +kernel
theorem d_Mod_resolve_131 : decode c_Mod_resolve 131 = .ok (.aload_n 0, 1) := by decide +kernel
theorem d_Mod_resolve_132 : decode c_Mod_resolve 132 = .ok (.iload_n 1, 1) := by decide +kernel
theorem d_Mod_resolve_133 : decode c_Mod_resolve 133 = .ok (.invokevirtual 158, 3) := by decide +kernel
theorem d_Mod_resolve_136 : decode c_Mod_resolve 136 = .ok (.goto 121, 3) := by decide +kernel
theorem d_Mod_resolve_139 : decode c_Mod_resolve 139 = .ok (.iload_n 2, 1) := by decide +kernel
theorem d_Mod_resolve_140 : decode c_Mod_resolve 140 = .ok (.iconst 5, 1) := by decide +kernel
theorem d_Mod_resolve_141 : decode c_Mod_resolve 141 = .ok (.if_icmp .ne 27, 3) := by decide +kernel
theorem d_Mod_resolve_144 : decode c_Mod_resolve 144 = .ok (.aload_n 0, 1) := by decide +kernel
theorem d_Mod_resolve_145 : decode c_Mod_resolve 145 = .ok (.iload_n 1, 1) := by decide +kernel
theorem d_Mod_resolve_146 : decode c_Mod_resolve 146 = .ok (.aload_n 0, 1) := by decide +kernel
theorem d_Mod_resolve_147 : decode c_Mod_resolve 147 = .ok (.getfield 7, 3) := by decide +kernel
theorem d_Mod_resolve_150 : decode c_Mod_resolve 150 = .ok (.iload_n 3, 1) := by decide +kernel
theorem d_Mod_resolve_151 : decode c_Mod_resolve 151 = .ok (.iaload, 1) := by decide +kernel
theorem d_Mod_resolve_152 : decode c_Mod_resolve 152 = .ok (.iconst 1, 1) := by decide +kernel
theorem d_Mod_resolve_153 : decode c_Mod_resolve 153 = .ok (.if_icmp .eq 7, 3) := by decide +kernel
theorem d_Mod_resolve_156 : decode c_Mod_resolve 156 = .ok (.iload_n 3, 1) := by decide +kernel
theorem d_Mod_resolve_157 : decode c_Mod_resolve 157 = .ok (.goto 5, 3) := by decide +kernel
theorem d_Mod_resolve_160 : decode c_Mod_resolve 160 = .ok (.iload 4, 2) := by decide +kernel
theorem d_Mod_resolve_162 : decode c_Mod_resolve 162 = .ok (.invokevirtual 151, 3) := by decide +kernel
theorem d_Mod_resolve_165 : decode c_Mod_resolve 165 = .ok (.goto 92, 3) := by decide +kernel
theorem d_Mod_resolve_168 : decode c_Mod_resolve 168 = .ok (.iload_n 2, 1) := by decide +kernel
theorem d_Mod_resolve_169 : decode c_Mod_resolve 169 = .ok (.bipush 6, 2) := by decide +kernel
theorem d_Mod_resolve_171 : decode c_Mod_resolve 171 = .ok (.if_icmp .ne 62, 3) := by decide +kernel
theorem d_Mod_resolve_174 : decode c_Mod_resolve 174 = .ok (.aload_n 0, 1) := by decide +kernel
theorem d_Mod_resolve_175 : decode c_Mod_resolve 175 = .ok (.iload_n 3, 1) := by decide +kernel
theorem d_Mod_resolve_176 : decode c_Mod_resolve 176 = .ok (.invokevirtual 124, 3) := by decide +kernel
theorem d_Mod_resolve_179 : decode c_Mod_resolve 179 = .ok (.ifCond .eq 28, 3) := by decide +kernel
theorem d_Mod_resolve_182 : decode c_Mod_resolve 182 = .ok (.aload_n 0, 1) := by decide +kernel
theorem d_Mod_resolve_183 : decode c_Mod_resolve 183 = .ok (.iload 4, 2) := by decide +kernel
theorem d_Mod_resolve_185 : decode c_Mod_resolve 185 = .ok (.invokevirtual 124, 3) := by decide +kernel
theorem d_Mod_resolve_188 : decode c_Mod_resolve 188 = .ok (.ifCond .eq 23, 3) := by decide +kernel
theorem d_Mod_resolve_191 : decode c_Mod_resolve 191 = .ok (.aload_n 0, 1) := by decide +kernel
theorem d_Mod_resolve_192 : decode c_Mod_resolve 192 = .ok (.getfield 16, 3) := by decide +kernel
theorem d_Mod_resolve_195 : decode c_Mod_resolve 195 = .ok (.iload 4, 2) := by decide +kernel
theorem d_Mod_resolve_197 : decode c_Mod_resolve 197 = .ok (.iaload, 1) := by decide +kernel
theorem d_Mod_resolve_198 : decode c_Mod_resolve 198 = .ok (.aload_n 0, 1) := by decide +kernel
theorem d_Mod_resolve_199 : decode c_Mod_resolve 199 = .ok (.getfield 16, 3) := by decide +kernel
theorem d_Mod_resolve_202 : decode c_Mod_resolve 202 = .ok (.iload_n 3, 1) := by decide +kernel
theorem d_Mod_resolve_203 : decode c_Mod_resolve 203 = .ok (.iaload, 1) := by decide +kernel
theorem d_Mod_resolve_204 : decode c_Mod_resolve 204 = .ok (.if_icmp .ge 7, 3) := by decide +kernel
theorem d_Mod_resolve_207 : decode c_Mod_resolve 207 = .ok (.iconst 1, 1) := by decide +kernel
theorem d_Mod_resolve_208 : decode c_Mod_resolve 208 = .ok (.goto 4, 3) := by decide +kernel
theorem d_Mod_resolve_211 : decode c_Mod_resolve 211 = .ok (.iconst 0, 1) := by decide +kernel
theorem d_Mod_resolve_212 : decode c_Mod_resolve 212 = .ok (.istore 5, 2) := by decide +kernel
theorem d_Mod_resolve_214 : decode c_Mod_resolve 214 = .ok (.aload_n 0, 1) := by decide +kernel
theorem d_Mod_resolve_215 : decode c_Mod_resolve 215 = .ok (.iload_n 1, 1) := by decide +kernel
theorem d_Mod_resolve_216 : decode c_Mod_resolve 216 = .ok (.iload 5, 2) := by decide +kernel
theorem d_Mod_resolve_218 : decode c_Mod_resolve 218 = .ok (.ifCond .eq 8, 3) := by decide +kernel
theorem d_Mod_resolve_221 : decode c_Mod_resolve 221 = .ok (.iload 4, 2) := by decide +kernel
theorem d_Mod_resolve_223 : decode c_Mod_resolve 223 = .ok (.goto 4, 3) := by decide +kernel
theorem d_Mod_resolve_226 : decode c_Mod_resolve 226 = .ok (.iload_n 3, 1) := by decide +kernel
theorem d_Mod_resolve_227 : decode c_Mod_resolve 227 = .ok (.invokevirtual 165, 3) := by decide +kernel
theorem d_Mod_resolve_230 : decode c_Mod_resolve 230 = .ok (.goto 27, 3) := by decide +kernel
theorem d_Mod_resolve_233 : decode c_Mod_resolve 233 = .ok (.iload_n 2, 1) := by decide +kernel
theorem d_Mod_resolve_234 : decode c_Mod_resolve 234 = .ok (.bipush 7, 2) := by decide +kernel
theorem d_Mod_resolve_236 : decode c_Mod_resolve 236 = .ok (.if_icmp .ne 11, 3) := by decide +kernel
theorem d_Mod_resolve_239 : decode c_Mod_resolve 239 = .ok (.aload_n 0, 1) := by decide +kernel
theorem d_Mod_resolve_240 : decode c_Mod_resolve 240 = .ok (.iload_n 1, 1) := by decide +kernel
theorem d_Mod_resolve_241 : decode c_Mod_resolve 241 = .ok (.invokevirtual 168, 3) := by decide +kernel
theorem d_Mod_resolve_244 : decode c_Mod_resolve 244 = .ok (.goto 13, 3) := by decide +kernel
theorem d_Mod_resolve_247 : decode c_Mod_resolve 247 = .ok (.aload_n 0, 1) := by decide +kernel
theorem d_Mod_resolve_248 : decode c_Mod_resolve 248 = .ok (.iload_n 1, 1) := by decide +kernel
theorem d_Mod_resolve_249 : decode c_Mod_resolve 249 = .ok (.aload_n 0, 1) := by decide +kernel
theorem d_Mod_resolve_250 : decode c_Mod_resolve 250 = .ok (.iload_n 1, 1) := by decide +kernel
theorem d_Mod_resolve_251 : decode c_Mod_resolve 251 = .ok (.invokevirtual 171, 3) := by decide +kernel
theorem d_Mod_resolve_254 : decode c_Mod_resolve 254 = .ok (.invokevirtual 151, 3) := by decide +kernel
theorem d_Mod_resolve_257 : decode c_Mod_resolve 257 = .ok (.return_, 1) := by decide +kernel
theorem d_Mod_copy_0 : decode c_Mod_copy 0 = .ok (.aload_n 0, 1) := by decide +kernel
theorem d_Mod_copy_1 : decode c_Mod_copy 1 = .ok (.iload_n 1, 1) := by decide +kernel
theorem d_Mod_copy_2 : decode c_Mod_copy 2 = .ok (.aload_n 0, 1) := by decide +kernel
theorem d_Mod_copy_3 : decode c_Mod_copy 3 = .ok (.getfield 7, 3) := by decide +kernel
theorem d_Mod_copy_6 : decode c_Mod_copy 6 = .ok (.iload_n 2, 1) := by decide +kernel
theorem d_Mod_copy_7 : decode c_Mod_copy 7 = .ok (.iaload, 1) := by decide +kernel
theorem d_Mod_copy_8 : decode c_Mod_copy 8 = .ok (.iconst 1, 1) := by decide +kernel
theorem d_Mod_copy_9 : decode c_Mod_copy 9 = .ok (.if_icmp .ne 7, 3) := by decide +kernel
theorem d_Mod_copy_12 : decode c_Mod_copy 12 = .ok (.iconst 1, 1) := by decide +kernel
theorem d_Mod_copy_13 : decode c_Mod_copy 13 = .ok (.goto 4, 3) := by decide +kernel
theorem d_Mod_copy_16 : decode c_Mod_copy 16 = .ok (.iconst 3, 1) := by decide +kernel
theorem d_Mod_copy_17 : decode c_Mod_copy 17 = .ok (.aload_n 0, 1) := by decide +kernel
theorem d_Mod_copy_18 : decode c_Mod_copy 18 = .ok (.getfield 13, 3) := by decide +kernel
theorem d_Mod_copy_21 : decode c_Mod_copy 21 = .ok (.iload_n 2, 1) := by decide +kernel
theorem d_Mod_copy_22 : decode c_Mod_copy 22 = .ok (.iaload, 1) := by decide +kernel
theorem d_Mod_copy_23 : decode c_Mod_copy 23 = .ok (.invokevirtual 147, 3) := by decide +kernel
theorem d_Mod_copy_26 : decode c_Mod_copy 26 = .ok (.return_, 1) := by decide +kernel
