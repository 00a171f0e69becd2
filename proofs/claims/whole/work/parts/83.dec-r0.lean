/-! decode rows of the law -/
abbrev c_Law_law : ByteArray := code
theorem d_Law_law_0 : decode c_Law_law 0 = .ok (.new 8, 3) := by decide +kernel
theorem d_Law_law_3 : decode c_Law_law 3 = .ok (.dup, 1) := by decide +kernel
theorem d_Law_law_4 : decode c_Law_law 4 = .ok (.invokespecial 47, 3) := by decide +kernel
theorem d_Law_law_7 : decode c_Law_law 7 = .ok (.astore_n 1, 1) := by decide +kernel
theorem d_Law_law_8 : decode c_Law_law 8 = .ok (.new 48, 3) := by decide +kernel
theorem d_Law_law_11 : decode c_Law_law 11 = .ok (.dup, 1) := by decide +kernel
theorem d_Law_law_12 : decode c_Law_law 12 = .ok (.invokespecial 50, 3) := by decide +kernel
theorem d_Law_law_15 : decode c_Law_law 15 = .ok (.astore_n 2, 1) := by decide +kernel
theorem d_Law_law_16 : decode c_Law_law 16 = .ok (.iconst 1, 1) := by decide +kernel
theorem d_Law_law_17 : decode c_Law_law 17 = .ok (.newarray .long, 2) := by decide +kernel
theorem d_Law_law_19 : decode c_Law_law 19 = .ok (.astore_n 3, 1) := by decide +kernel
theorem d_Law_law_20 : decode c_Law_law 20 = .ok (.iconst 0, 1) := by decide +kernel
theorem d_Law_law_21 : decode c_Law_law 21 = .ok (.istore 4, 2) := by decide +kernel
theorem d_Law_law_23 : decode c_Law_law 23 = .ok (.iload 4, 2) := by decide +kernel
theorem d_Law_law_25 : decode c_Law_law 25 = .ok (.aload_n 0, 1) := by decide +kernel
theorem d_Law_law_26 : decode c_Law_law 26 = .ok (.arraylength, 1) := by decide +kernel
theorem d_Law_law_27 : decode c_Law_law 27 = .ok (.bipush 7, 2) := by decide +kernel
theorem d_Law_law_29 : decode c_Law_law 29 = .ok (.isub, 1) := by decide +kernel
theorem d_Law_law_30 : decode c_Law_law 30 = .ok (.if_icmp .gt 1190, 3) := by decide +kernel
theorem d_Law_law_33 : decode c_Law_law 33 = .ok (.aload_n 0, 1) := by decide +kernel
theorem d_Law_law_34 : decode c_Law_law 34 = .ok (.iload 4, 2) := by decide +kernel
theorem d_Law_law_36 : decode c_Law_law 36 = .ok (.iaload, 1) := by decide +kernel
theorem d_Law_law_37 : decode c_Law_law 37 = .ok (.bipush 31, 2) := by decide +kernel
theorem d_Law_law_39 : decode c_Law_law 39 = .ok (.iand, 1) := by decide +kernel
theorem d_Law_law_40 : decode c_Law_law 40 = .ok (.tableswitch 1174 0 19 #[96, 140, 260, 394, 494, 531, 568, 593, 618, 674, 711, 736, 816, 865, 957, 982, 1007, 1032, 1069, 1137], 96) := by decide +kernel
theorem d_Law_law_136 : decode c_Law_law 136 = .ok (.aload_n 1, 1) := by decide +kernel
theorem d_Law_law_137 : decode c_Law_law 137 = .ok (.aload_n 3, 1) := by decide +kernel
theorem d_Law_law_138 : decode c_Law_law 138 = .ok (.invokestatic 51, 3) := by decide +kernel
theorem d_Law_law_141 : decode c_Law_law 141 = .ok (.istore 5, 2) := by decide +kernel
theorem d_Law_law_143 : decode c_Law_law 143 = .ok (.aload_n 2, 1) := by decide +kernel
theorem d_Law_law_144 : decode c_Law_law 144 = .ok (.invokevirtual 56, 3) := by decide +kernel
theorem d_Law_law_147 : decode c_Law_law 147 = .ok (.istore 6, 2) := by decide +kernel
theorem d_Law_law_149 : decode c_Law_law 149 = .ok (.aload_n 2, 1) := by decide +kernel
theorem d_Law_law_150 : decode c_Law_law 150 = .ok (.invokevirtual 57, 3) := by decide +kernel
theorem d_Law_law_153 : decode c_Law_law 153 = .ok (.iload 5, 2) := by decide +kernel
theorem d_Law_law_155 : decode c_Law_law 155 = .ok (.if_icmp .eq 5, 3) := by decide +kernel
theorem d_Law_law_158 : decode c_Law_law 158 = .ok (.iconst 0, 1) := by decide +kernel
theorem d_Law_law_159 : decode c_Law_law 159 = .ok (.ireturn, 1) := by decide +kernel
theorem d_Law_law_160 : decode c_Law_law 160 = .ok (.iload 5, 2) := by decide +kernel
theorem d_Law_law_162 : decode c_Law_law 162 = .ok (.ifCond .ne 15, 3) := by decide +kernel
theorem d_Law_law_165 : decode c_Law_law 165 = .ok (.aload_n 3, 1) := by decide +kernel
theorem d_Law_law_166 : decode c_Law_law 166 = .ok (.iconst 0, 1) := by decide +kernel
theorem d_Law_law_167 : decode c_Law_law 167 = .ok (.laload, 1) := by decide +kernel
theorem d_Law_law_168 : decode c_Law_law 168 = .ok (.iload 6, 2) := by decide +kernel
theorem d_Law_law_170 : decode c_Law_law 170 = .ok (.i2l, 1) := by decide +kernel
theorem d_Law_law_171 : decode c_Law_law 171 = .ok (.lcmp, 1) := by decide +kernel
theorem d_Law_law_172 : decode c_Law_law 172 = .ok (.ifCond .eq 5, 3) := by decide +kernel
theorem d_Law_law_175 : decode c_Law_law 175 = .ok (.iconst 0, 1) := by decide +kernel
theorem d_Law_law_176 : decode c_Law_law 176 = .ok (.ireturn, 1) := by decide +kernel
theorem d_Law_law_177 : decode c_Law_law 177 = .ok (.goto 1037, 3) := by decide +kernel
theorem d_Law_law_180 : decode c_Law_law 180 = .ok (.aload_n 1, 1) := by decide +kernel
theorem d_Law_law_181 : decode c_Law_law 181 = .ok (.aload_n 0, 1) := by decide +kernel
theorem d_Law_law_182 : decode c_Law_law 182 = .ok (.iload 4, 2) := by decide +kernel
theorem d_Law_law_184 : decode c_Law_law 184 = .ok (.iconst 1, 1) := by decide +kernel
theorem d_Law_law_185 : decode c_Law_law 185 = .ok (.iadd, 1) := by decide +kernel
theorem d_Law_law_186 : decode c_Law_law 186 = .ok (.iaload, 1) := by decide +kernel
theorem d_Law_law_187 : decode c_Law_law 187 = .ok (.aload_n 0, 1) := by decide +kernel
theorem d_Law_law_188 : decode c_Law_law 188 = .ok (.iload 4, 2) := by decide +kernel
theorem d_Law_law_190 : decode c_Law_law 190 = .ok (.iconst 2, 1) := by decide +kernel
theorem d_Law_law_191 : decode c_Law_law 191 = .ok (.iadd, 1) := by decide +kernel
theorem d_Law_law_192 : decode c_Law_law 192 = .ok (.iaload, 1) := by decide +kernel
theorem d_Law_law_193 : decode c_Law_law 193 = .ok (.aload_n 0, 1) := by decide +kernel
theorem d_Law_law_194 : decode c_Law_law 194 = .ok (.iload 4, 2) := by decide +kernel
theorem d_Law_law_196 : decode c_Law_law 196 = .ok (.iconst 3, 1) := by decide +kernel
theorem d_Law_law_197 : decode c_Law_law 197 = .ok (.iadd, 1) := by decide +kernel
theorem d_Law_law_198 : decode c_Law_law 198 = .ok (.iaload, 1) := by decide +kernel
theorem d_Law_law_199 : decode c_Law_law 199 = .ok (.aload_n 0, 1) := by decide +kernel
theorem d_Law_law_200 : decode c_Law_law 200 = .ok (.iload 4, 2) := by decide +kernel
theorem d_Law_law_202 : decode c_Law_law 202 = .ok (.iconst 4, 1) := by decide +kernel
theorem d_Law_law_203 : decode c_Law_law 203 = .ok (.iadd, 1) := by decide +kernel
theorem d_Law_law_204 : decode c_Law_law 204 = .ok (.iaload, 1) := by decide +kernel
theorem d_Law_law_205 : decode c_Law_law 205 = .ok (.aload_n 0, 1) := by decide +kernel
theorem d_Law_law_206 : decode c_Law_law 206 = .ok (.iload 4, 2) := by decide +kernel
theorem d_Law_law_208 : decode c_Law_law 208 = .ok (.iconst 5, 1) := by decide +kernel
theorem d_Law_law_209 : decode c_Law_law 209 = .ok (.iadd, 1) := by decide +kernel
theorem d_Law_law_210 : decode c_Law_law 210 = .ok (.iaload, 1) := by decide +kernel
theorem d_Law_law_211 : decode c_Law_law 211 = .ok (.ifCond .eq 7, 3) := by decide +kernel
theorem d_Law_law_214 : decode c_Law_law 214 = .ok (.iconst 1, 1) := by decide +kernel
theorem d_Law_law_215 : decode c_Law_law 215 = .ok (.goto 4, 3) := by decide +kernel
theorem d_Law_law_218 : decode c_Law_law 218 = .ok (.iconst 0, 1) := by decide +kernel
theorem d_Law_law_219 : decode c_Law_law 219 = .ok (.aload_n 3, 1) := by decide +kernel
theorem d_Law_law_220 : decode c_Law_law 220 = .ok (.invokestatic 60, 3) := by decide +kernel
theorem d_Law_law_223 : decode c_Law_law 223 = .ok (.istore 5, 2) := by decide +kernel
theorem d_Law_law_225 : decode c_Law_law 225 = .ok (.aload_n 2, 1) := by decide +kernel
theorem d_Law_law_226 : decode c_Law_law 226 = .ok (.aload_n 0, 1) := by decide +kernel
theorem d_Law_law_227 : decode c_Law_law 227 = .ok (.iload 4, 2) := by decide +kernel
theorem d_Law_law_229 : decode c_Law_law 229 = .ok (.iconst 1, 1) := by decide +kernel
theorem d_Law_law_230 : decode c_Law_law 230 = .ok (.iadd, 1) := by decide +kernel
theorem d_Law_law_231 : decode c_Law_law 231 = .ok (.iaload, 1) := by decide +kernel
theorem d_Law_law_232 : decode c_Law_law 232 = .ok (.aload_n 0, 1) := by decide +kernel
theorem d_Law_law_233 : decode c_Law_law 233 = .ok (.iload 4, 2) := by decide +kernel
theorem d_Law_law_235 : decode c_Law_law 235 = .ok (.iconst 2, 1) := by decide +kernel
theorem d_Law_law_236 : decode c_Law_law 236 = .ok (.iadd, 1) := by decide +kernel
theorem d_Law_law_237 : decode c_Law_law 237 = .ok (.iaload, 1) := by decide +kernel
theorem d_Law_law_238 : decode c_Law_law 238 = .ok (.aload_n 0, 1) := by decide +kernel
theorem d_Law_law_239 : decode c_Law_law 239 = .ok (.iload 4, 2) := by decide +kernel
theorem d_Law_law_241 : decode c_Law_law 241 = .ok (.iconst 3, 1) := by decide +kernel
theorem d_Law_law_242 : decode c_Law_law 242 = .ok (.iadd, 1) := by decide +kernel
theorem d_Law_law_243 : decode c_Law_law 243 = .ok (.iaload, 1) := by decide +kernel
theorem d_Law_law_244 : decode c_Law_law 244 = .ok (.aload_n 0, 1) := by decide +kernel
theorem d_Law_law_245 : decode c_Law_law 245 = .ok (.iload 4, 2) := by decide +kernel
theorem d_Law_law_247 : decode c_Law_law 247 = .ok (.iconst 4, 1) := by decide +kernel
theorem d_Law_law_248 : decode c_Law_law 248 = .ok (.iadd, 1) := by decide +kernel
theorem d_Law_law_249 : decode c_Law_law 249 = .ok (.iaload, 1) := by decide +kernel
theorem d_Law_law_250 : decode c_Law_law 250 = .ok (.aload_n 0, 1) := by decide +kernel
theorem d_Law_law_251 : decode c_Law_law 251 = .ok (.iload 4, 2) := by decide +kernel
theorem d_Law_law_253 : decode c_Law_law 253 = .ok (.iconst 5, 1) := by decide +kernel
theorem d_Law_law_254 : decode c_Law_law 254 = .ok (.iadd, 1) := by decide +kernel
theorem d_Law_law_255 : decode c_Law_law 255 = .ok (.iaload, 1) := by decide +kernel
theorem d_Law_law_256 : decode c_Law_law 256 = .ok (.ifCond .eq 7, 3) := by decide +kernel
theorem d_Law_law_259 : decode c_Law_law 259 = .ok (.iconst 1, 1) := by decide +kernel
theorem d_Law_law_260 : decode c_Law_law 260 = .ok (.goto 4, 3) := by decide +kernel
theorem d_Law_law_263 : decode c_Law_law 263 = .ok (.iconst 0, 1) := by decide +kernel
theorem d_Law_law_264 : decode c_Law_law 264 = .ok (.invokevirtual 63, 3) := by decide +kernel
theorem d_Law_law_267 : decode c_Law_law 267 = .ok (.istore 6, 2) := by decide +kernel
theorem d_Law_law_269 : decode c_Law_law 269 = .ok (.aload_n 2, 1) := by decide +kernel
theorem d_Law_law_270 : decode c_Law_law 270 = .ok (.invokevirtual 57, 3) := by decide +kernel
theorem d_Law_law_273 : decode c_Law_law 273 = .ok (.iload 5, 2) := by decide +kernel
theorem d_Law_law_275 : decode c_Law_law 275 = .ok (.if_icmp .eq 5, 3) := by decide +kernel
theorem d_Law_law_278 : decode c_Law_law 278 = .ok (.iconst 0, 1) := by decide +kernel
