theorem dX4_init_0 : decode cX4_init 0 = .ok (.aload_n 0, 1) := by decide +kernel
theorem dX4_init_1 : decode cX4_init 1 = .ok (.invokespecial 3, 3) := by decide +kernel
theorem dX4_init_4 : decode cX4_init 4 = .ok (.aload_n 0, 1) := by decide +kernel
theorem dX4_init_5 : decode cX4_init 5 = .ok (.bipush 10, 2) := by decide +kernel
theorem dX4_init_7 : decode cX4_init 7 = .ok (.newarray .int, 2) := by decide +kernel
theorem dX4_init_9 : decode cX4_init 9 = .ok (.putfield 9, 3) := by decide +kernel
theorem dX4_init_12 : decode cX4_init 12 = .ok (.aload_n 0, 1) := by decide +kernel
theorem dX4_init_13 : decode cX4_init 13 = .ok (.bipush 10, 2) := by decide +kernel
theorem dX4_init_15 : decode cX4_init 15 = .ok (.newarray .int, 2) := by decide +kernel
theorem dX4_init_17 : decode cX4_init 17 = .ok (.putfield 15, 3) := by decide +kernel
theorem dX4_init_20 : decode cX4_init 20 = .ok (.aload_n 0, 1) := by decide +kernel
theorem dX4_init_21 : decode cX4_init 21 = .ok (.bipush 10, 2) := by decide +kernel
theorem dX4_init_23 : decode cX4_init 23 = .ok (.newarray .int, 2) := by decide +kernel
theorem dX4_init_25 : decode cX4_init 25 = .ok (.putfield 18, 3) := by decide +kernel
theorem dX4_init_28 : decode cX4_init 28 = .ok (.return_, 1) := by decide +kernel
theorem dX4_readScript_0 : decode cX4_readScript 0 = .ok (.aload_n 0, 1) := by decide +kernel
theorem dX4_readScript_1 : decode cX4_readScript 1 = .ok (.iconst 0, 1) := by decide +kernel
theorem dX4_readScript_2 : decode cX4_readScript 2 = .ok (.putfield 21, 3) := by decide +kernel
theorem dX4_readScript_5 : decode cX4_readScript 5 = .ok (.aload_n 0, 1) := by decide +kernel
theorem dX4_readScript_6 : decode cX4_readScript 6 = .ok (.iconst 0, 1) := by decide +kernel
theorem dX4_readScript_7 : decode cX4_readScript 7 = .ok (.putfield 25, 3) := by decide +kernel
theorem dX4_readScript_10 : decode cX4_readScript 10 = .ok (.iconst 0, 1) := by decide +kernel
theorem dX4_readScript_11 : decode cX4_readScript 11 = .ok (.istore_n 2, 1) := by decide +kernel
theorem dX4_readScript_12 : decode cX4_readScript 12 = .ok (.iload_n 2, 1) := by decide +kernel
theorem dX4_readScript_13 : decode cX4_readScript 13 = .ok (.bipush 10, 2) := by decide +kernel
theorem dX4_readScript_15 : decode cX4_readScript 15 = .ok (.if_icmp .ge 44, 3) := by decide +kernel
theorem dX4_readScript_18 : decode cX4_readScript 18 = .ok (.aload_n 0, 1) := by decide +kernel
theorem dX4_readScript_19 : decode cX4_readScript 19 = .ok (.aload_n 1, 1) := by decide +kernel
theorem dX4_readScript_20 : decode cX4_readScript 20 = .ok (.invokevirtual 28, 3) := by decide +kernel
theorem dX4_readScript_23 : decode cX4_readScript 23 = .ok (.ifCond .ne 5, 3) := by decide +kernel
theorem dX4_readScript_26 : decode cX4_readScript 26 = .ok (.iconst 0, 1) := by decide +kernel
theorem dX4_readScript_27 : decode cX4_readScript 27 = .ok (.ireturn, 1) := by decide +kernel
theorem dX4_readScript_28 : decode cX4_readScript 28 = .ok (.aload_n 0, 1) := by decide +kernel
theorem dX4_readScript_29 : decode cX4_readScript 29 = .ok (.getfield 25, 3) := by decide +kernel
theorem dX4_readScript_32 : decode cX4_readScript 32 = .ok (.aload_n 1, 1) := by decide +kernel
theorem dX4_readScript_33 : decode cX4_readScript 33 = .ok (.invokevirtual 32, 3) := by decide +kernel
theorem dX4_readScript_36 : decode cX4_readScript 36 = .ok (.if_icmp .ne 5, 3) := by decide +kernel
theorem dX4_readScript_39 : decode cX4_readScript 39 = .ok (.iconst 1, 1) := by decide +kernel
theorem dX4_readScript_40 : decode cX4_readScript 40 = .ok (.ireturn, 1) := by decide +kernel
theorem dX4_readScript_41 : decode cX4_readScript 41 = .ok (.aload_n 0, 1) := by decide +kernel
theorem dX4_readScript_42 : decode cX4_readScript 42 = .ok (.aload_n 1, 1) := by decide +kernel
theorem dX4_readScript_43 : decode cX4_readScript 43 = .ok (.bipush 59, 2) := by decide +kernel
theorem dX4_readScript_45 : decode cX4_readScript 45 = .ok (.invokevirtual 38, 3) := by decide +kernel
theorem dX4_readScript_48 : decode cX4_readScript 48 = .ok (.ifCond .ne 5, 3) := by decide +kernel
theorem dX4_readScript_51 : decode cX4_readScript 51 = .ok (.iconst 0, 1) := by decide +kernel
theorem dX4_readScript_52 : decode cX4_readScript 52 = .ok (.ireturn, 1) := by decide +kernel
theorem dX4_readScript_53 : decode cX4_readScript 53 = .ok (.iinc 2 1, 3) := by decide +kernel
theorem dX4_readScript_56 : decode cX4_readScript 56 = .ok (.goto (-44), 3) := by decide +kernel
theorem dX4_readScript_59 : decode cX4_readScript 59 = .ok (.iconst 0, 1) := by decide +kernel
theorem dX4_readScript_60 : decode cX4_readScript 60 = .ok (.ireturn, 1) := by decide +kernel
theorem dX4_readCommand_0 : decode cX4_readCommand 0 = .ok (.aload_n 0, 1) := by decide +kernel
theorem dX4_readCommand_1 : decode cX4_readCommand 1 = .ok (.getfield 25, 3) := by decide +kernel
theorem dX4_readCommand_4 : decode cX4_readCommand 4 = .ok (.aload_n 1, 1) := by decide +kernel
theorem dX4_readCommand_5 : decode cX4_readCommand 5 = .ok (.invokevirtual 32, 3) := by decide +kernel
theorem dX4_readCommand_8 : decode cX4_readCommand 8 = .ok (.if_icmp .lt 5, 3) := by decide +kernel
theorem dX4_readCommand_11 : decode cX4_readCommand 11 = .ok (.iconst 0, 1) := by decide +kernel
theorem dX4_readCommand_12 : decode cX4_readCommand 12 = .ok (.ireturn, 1) := by decide +kernel
theorem dX4_readCommand_13 : decode cX4_readCommand 13 = .ok (.aload_n 1, 1) := by decide +kernel
theorem dX4_readCommand_14 : decode cX4_readCommand 14 = .ok (.aload_n 0, 1) := by decide +kernel
theorem dX4_readCommand_15 : decode cX4_readCommand 15 = .ok (.getfield 25, 3) := by decide +kernel
theorem dX4_readCommand_18 : decode cX4_readCommand 18 = .ok (.invokevirtual 42, 3) := by decide +kernel
theorem dX4_readCommand_21 : decode cX4_readCommand 21 = .ok (.tableswitch 283 99 122 #[111, 283, 283, 210, 283, 283, 160, 283, 283, 135, 283, 283, 185, 283, 283, 283, 283, 283, 283, 283, 259, 283, 283, 235], 111) := by decide +kernel
theorem dX4_readCommand_132 : decode cX4_readCommand 132 = .ok (.aload_n 0, 1) := by decide +kernel
theorem dX4_readCommand_133 : decode cX4_readCommand 133 = .ok (.aload_n 1, 1) := by decide +kernel
theorem dX4_readCommand_134 : decode cX4_readCommand 134 = .ok (.ldc 46, 2) := by decide +kernel
theorem dX4_readCommand_136 : decode cX4_readCommand 136 = .ok (.invokevirtual 48, 3) := by decide +kernel
theorem dX4_readCommand_139 : decode cX4_readCommand 139 = .ok (.ifCond .eq 15, 3) := by decide +kernel
theorem dX4_readCommand_142 : decode cX4_readCommand 142 = .ok (.aload_n 0, 1) := by decide +kernel
theorem dX4_readCommand_143 : decode cX4_readCommand 143 = .ok (.aload_n 1, 1) := by decide +kernel
theorem dX4_readCommand_144 : decode cX4_readCommand 144 = .ok (.invokevirtual 52, 3) := by decide +kernel
theorem dX4_readCommand_147 : decode cX4_readCommand 147 = .ok (.ifCond .eq 7, 3) := by decide +kernel
theorem dX4_readCommand_150 : decode cX4_readCommand 150 = .ok (.iconst 1, 1) := by decide +kernel
theorem dX4_readCommand_151 : decode cX4_readCommand 151 = .ok (.goto 4, 3) := by decide +kernel
theorem dX4_readCommand_154 : decode cX4_readCommand 154 = .ok (.iconst 0, 1) := by decide +kernel
theorem dX4_readCommand_155 : decode cX4_readCommand 155 = .ok (.ireturn, 1) := by decide +kernel
theorem dX4_readCommand_156 : decode cX4_readCommand 156 = .ok (.aload_n 0, 1) := by decide +kernel
theorem dX4_readCommand_157 : decode cX4_readCommand 157 = .ok (.aload_n 1, 1) := by decide +kernel
theorem dX4_readCommand_158 : decode cX4_readCommand 158 = .ok (.ldc 55, 2) := by decide +kernel
theorem dX4_readCommand_160 : decode cX4_readCommand 160 = .ok (.invokevirtual 48, 3) := by decide +kernel
theorem dX4_readCommand_163 : decode cX4_readCommand 163 = .ok (.ifCond .eq 16, 3) := by decide +kernel
theorem dX4_readCommand_166 : decode cX4_readCommand 166 = .ok (.aload_n 0, 1) := by decide +kernel
theorem dX4_readCommand_167 : decode cX4_readCommand 167 = .ok (.aload_n 1, 1) := by decide +kernel
theorem dX4_readCommand_168 : decode cX4_readCommand 168 = .ok (.iconst 1, 1) := by decide +kernel
theorem dX4_readCommand_169 : decode cX4_readCommand 169 = .ok (.invokevirtual 57, 3) := by decide +kernel
theorem dX4_readCommand_172 : decode cX4_readCommand 172 = .ok (.ifCond .eq 7, 3) := by decide +kernel
theorem dX4_readCommand_175 : decode cX4_readCommand 175 = .ok (.iconst 1, 1) := by decide +kernel
theorem dX4_readCommand_176 : decode cX4_readCommand 176 = .ok (.goto 4, 3) := by decide +kernel
theorem dX4_readCommand_179 : decode cX4_readCommand 179 = .ok (.iconst 0, 1) := by decide +kernel
theorem dX4_readCommand_180 : decode cX4_readCommand 180 = .ok (.ireturn, 1) := by decide +kernel
theorem dX4_readCommand_181 : decode cX4_readCommand 181 = .ok (.aload_n 0, 1) := by decide +kernel
theorem dX4_readCommand_182 : decode cX4_readCommand 182 = .ok (.aload_n 1, 1) := by decide +kernel
theorem dX4_readCommand_183 : decode cX4_readCommand 183 = .ok (.ldc 61, 2) := by decide +kernel
theorem dX4_readCommand_185 : decode cX4_readCommand 185 = .ok (.invokevirtual 48, 3) := by decide +kernel
theorem dX4_readCommand_188 : decode cX4_readCommand 188 = .ok (.ifCond .eq 16, 3) := by decide +kernel
theorem dX4_readCommand_191 : decode cX4_readCommand 191 = .ok (.aload_n 0, 1) := by decide +kernel
theorem dX4_readCommand_192 : decode cX4_readCommand 192 = .ok (.aload_n 1, 1) := by decide +kernel
theorem dX4_readCommand_193 : decode cX4_readCommand 193 = .ok (.iconst 2, 1) := by decide +kernel
theorem dX4_readCommand_194 : decode cX4_readCommand 194 = .ok (.invokevirtual 57, 3) := by decide +kernel
theorem dX4_readCommand_197 : decode cX4_readCommand 197 = .ok (.ifCond .eq 7, 3) := by decide +kernel
theorem dX4_readCommand_200 : decode cX4_readCommand 200 = .ok (.iconst 1, 1) := by decide +kernel
theorem dX4_readCommand_201 : decode cX4_readCommand 201 = .ok (.goto 4, 3) := by decide +kernel
theorem dX4_readCommand_204 : decode cX4_readCommand 204 = .ok (.iconst 0, 1) := by decide +kernel
theorem dX4_readCommand_205 : decode cX4_readCommand 205 = .ok (.ireturn, 1) := by decide +kernel
theorem dX4_readCommand_206 : decode cX4_readCommand 206 = .ok (.aload_n 0, 1) := by decide +kernel
theorem dX4_readCommand_207 : decode cX4_readCommand 207 = .ok (.aload_n 1, 1) := by decide +kernel
theorem dX4_readCommand_208 : decode cX4_readCommand 208 = .ok (.ldc 63, 2) := by decide +kernel
theorem dX4_readCommand_210 : decode cX4_readCommand 210 = .ok (.invokevirtual 48, 3) := by decide +kernel
theorem dX4_readCommand_213 : decode cX4_readCommand 213 = .ok (.ifCond .eq 16, 3) := by decide +kernel
theorem dX4_readCommand_216 : decode cX4_readCommand 216 = .ok (.aload_n 0, 1) := by decide +kernel
theorem dX4_readCommand_217 : decode cX4_readCommand 217 = .ok (.aload_n 1, 1) := by decide +kernel
theorem dX4_readCommand_218 : decode cX4_readCommand 218 = .ok (.iconst 3, 1) := by decide +kernel
theorem dX4_readCommand_219 : decode cX4_readCommand 219 = .ok (.invokevirtual 57, 3) := by decide +kernel
theorem dX4_readCommand_222 : decode cX4_readCommand 222 = .ok (.ifCond .eq 7, 3) := by decide +kernel
theorem dX4_readCommand_225 : decode cX4_readCommand 225 = .ok (.iconst 1, 1) := by decide +kernel
theorem dX4_readCommand_226 : decode cX4_readCommand 226 = .ok (.goto 4, 3) := by decide +kernel
theorem dX4_readCommand_229 : decode cX4_readCommand 229 = .ok (.iconst 0, 1) := by decide +kernel
theorem dX4_readCommand_230 : decode cX4_readCommand 230 = .ok (.ireturn, 1) := by decide +kernel
theorem dX4_readCommand_231 : decode cX4_readCommand 231 = .ok (.aload_n 0, 1) := by decide +kernel
theorem dX4_readCommand_232 : decode cX4_readCommand 232 = .ok (.aload_n 1, 1) := by decide +kernel
theorem dX4_readCommand_233 : decode cX4_readCommand 233 = .ok (.ldc 65, 2) := by decide +kernel
theorem dX4_readCommand_235 : decode cX4_readCommand 235 = .ok (.invokevirtual 48, 3) := by decide +kernel
theorem dX4_readCommand_238 : decode cX4_readCommand 238 = .ok (.ifCond .eq 16, 3) := by decide +kernel
theorem dX4_readCommand_241 : decode cX4_readCommand 241 = .ok (.aload_n 0, 1) := by decide +kernel
theorem dX4_readCommand_242 : decode cX4_readCommand 242 = .ok (.aload_n 1, 1) := by decide +kernel
theorem dX4_readCommand_243 : decode cX4_readCommand 243 = .ok (.iconst 4, 1) := by decide +kernel
theorem dX4_readCommand_244 : decode cX4_readCommand 244 = .ok (.invokevirtual 57, 3) := by decide +kernel
theorem dX4_readCommand_247 : decode cX4_readCommand 247 = .ok (.ifCond .eq 7, 3) := by decide +kernel
theorem dX4_readCommand_250 : decode cX4_readCommand 250 = .ok (.iconst 1, 1) := by decide +kernel
theorem dX4_readCommand_251 : decode cX4_readCommand 251 = .ok (.goto 4, 3) := by decide +kernel
theorem dX4_readCommand_254 : decode cX4_readCommand 254 = .ok (.iconst 0, 1) := by decide +kernel
theorem dX4_readCommand_255 : decode cX4_readCommand 255 = .ok (.ireturn, 1) := by decide +kernel
theorem dX4_readCommand_256 : decode cX4_readCommand 256 = .ok (.aload_n 0, 1) := by decide +kernel
theorem dX4_readCommand_257 : decode cX4_readCommand 257 = .ok (.aload_n 1, 1) := by decide +kernel
theorem dX4_readCommand_258 : decode cX4_readCommand 258 = .ok (.ldc 67, 2) := by decide +kernel
theorem dX4_readCommand_260 : decode cX4_readCommand 260 = .ok (.invokevirtual 48, 3) := by decide +kernel
theorem dX4_readCommand_263 : decode cX4_readCommand 263 = .ok (.ifCond .eq 15, 3) := by decide +kernel
theorem dX4_readCommand_266 : decode cX4_readCommand 266 = .ok (.aload_n 0, 1) := by decide +kernel
theorem dX4_readCommand_267 : decode cX4_readCommand 267 = .ok (.aload_n 1, 1) := by decide +kernel
theorem dX4_readCommand_268 : decode cX4_readCommand 268 = .ok (.invokevirtual 69, 3) := by decide +kernel
theorem dX4_readCommand_271 : decode cX4_readCommand 271 = .ok (.ifCond .eq 7, 3) := by decide +kernel
theorem dX4_readCommand_274 : decode cX4_readCommand 274 = .ok (.iconst 1, 1) := by decide +kernel
theorem dX4_readCommand_275 : decode cX4_readCommand 275 = .ok (.goto 4, 3) := by decide +kernel
theorem dX4_readCommand_278 : decode cX4_readCommand 278 = .ok (.iconst 0, 1) := by decide +kernel
theorem dX4_readCommand_279 : decode cX4_readCommand 279 = .ok (.ireturn, 1) := by decide +kernel
theorem dX4_readCommand_280 : decode cX4_readCommand 280 = .ok (.aload_n 0, 1) := by decide +kernel
theorem dX4_readCommand_281 : decode cX4_readCommand 281 = .ok (.aload_n 1, 1) := by decide +kernel
theorem dX4_readCommand_282 : decode cX4_readCommand 282 = .ok (.ldc 72, 2) := by decide +kernel
theorem dX4_readCommand_284 : decode cX4_readCommand 284 = .ok (.invokevirtual 48, 3) := by decide +kernel
theorem dX4_readCommand_287 : decode cX4_readCommand 287 = .ok (.ifCond .eq 15, 3) := by decide +kernel
theorem dX4_readCommand_290 : decode cX4_readCommand 290 = .ok (.aload_n 0, 1) := by decide +kernel
theorem dX4_readCommand_291 : decode cX4_readCommand 291 = .ok (.aload_n 1, 1) := by decide +kernel
theorem dX4_readCommand_292 : decode cX4_readCommand 292 = .ok (.invokevirtual 74, 3) := by decide +kernel
theorem dX4_readCommand_295 : decode cX4_readCommand 295 = .ok (.ifCond .eq 7, 3) := by decide +kernel
theorem dX4_readCommand_298 : decode cX4_readCommand 298 = .ok (.iconst 1, 1) := by decide +kernel
theorem dX4_readCommand_299 : decode cX4_readCommand 299 = .ok (.goto 4, 3) := by decide +kernel
theorem dX4_readCommand_302 : decode cX4_readCommand 302 = .ok (.iconst 0, 1) := by decide +kernel
theorem dX4_readCommand_303 : decode cX4_readCommand 303 = .ok (.ireturn, 1) := by decide +kernel
theorem dX4_readCommand_304 : decode cX4_readCommand 304 = .ok (.iconst 0, 1) := by decide +kernel
theorem dX4_readCommand_305 : decode cX4_readCommand 305 = .ok (.ireturn, 1) := by decide +kernel
theorem dX4_readCardKind_0 : decode cX4_readCardKind 0 = .ok (.aload_n 0, 1) := by decide +kernel
theorem dX4_readCardKind_1 : decode cX4_readCardKind 1 = .ok (.aload_n 1, 1) := by decide +kernel
theorem dX4_readCardKind_2 : decode cX4_readCardKind 2 = .ok (.bipush 102, 2) := by decide +kernel
theorem dX4_readCardKind_4 : decode cX4_readCardKind 4 = .ok (.invokevirtual 38, 3) := by decide +kernel
theorem dX4_readCardKind_7 : decode cX4_readCardKind 7 = .ok (.ifCond .eq 11, 3) := by decide +kernel
theorem dX4_readCardKind_10 : decode cX4_readCardKind 10 = .ok (.aload_n 0, 1) := by decide +kernel
theorem dX4_readCardKind_11 : decode cX4_readCardKind 11 = .ok (.iconst 0, 1) := by decide +kernel
theorem dX4_readCardKind_12 : decode cX4_readCardKind 12 = .ok (.iconst 0, 1) := by decide +kernel
theorem dX4_readCardKind_13 : decode cX4_readCardKind 13 = .ok (.iconst 0, 1) := by decide +kernel
theorem dX4_readCardKind_14 : decode cX4_readCardKind 14 = .ok (.invokevirtual 77, 3) := by decide +kernel
theorem dX4_readCardKind_17 : decode cX4_readCardKind 17 = .ok (.ireturn, 1) := by decide +kernel
theorem dX4_readCardKind_18 : decode cX4_readCardKind 18 = .ok (.aload_n 0, 1) := by decide +kernel
theorem dX4_readCardKind_19 : decode cX4_readCardKind 19 = .ok (.aload_n 1, 1) := by decide +kernel
theorem dX4_readCardKind_20 : decode cX4_readCardKind 20 = .ok (.bipush 114, 2) := by decide +kernel
theorem dX4_readCardKind_22 : decode cX4_readCardKind 22 = .ok (.invokevirtual 38, 3) := by decide +kernel
theorem dX4_readCardKind_25 : decode cX4_readCardKind 25 = .ok (.ifCond .eq 17, 3) := by decide +kernel
theorem dX4_readCardKind_28 : decode cX4_readCardKind 28 = .ok (.aload_n 0, 1) := by decide +kernel
theorem dX4_readCardKind_29 : decode cX4_readCardKind 29 = .ok (.iconst 0, 1) := by decide +kernel
theorem dX4_readCardKind_30 : decode cX4_readCardKind 30 = .ok (.iconst 1, 1) := by decide +kernel
theorem dX4_readCardKind_31 : decode cX4_readCardKind 31 = .ok (.iconst 0, 1) := by decide +kernel
theorem dX4_readCardKind_32 : decode cX4_readCardKind 32 = .ok (.invokevirtual 77, 3) := by decide +kernel
theorem dX4_readCardKind_35 : decode cX4_readCardKind 35 = .ok (.ifCond .eq 7, 3) := by decide +kernel
theorem dX4_readCardKind_38 : decode cX4_readCardKind 38 = .ok (.iconst 1, 1) := by decide +kernel
theorem dX4_readCardKind_39 : decode cX4_readCardKind 39 = .ok (.goto 4, 3) := by decide +kernel
theorem dX4_readCardKind_42 : decode cX4_readCardKind 42 = .ok (.iconst 0, 1) := by decide +kernel
theorem dX4_readCardKind_43 : decode cX4_readCardKind 43 = .ok (.ireturn, 1) := by decide +kernel
theorem dX4_readDigitAndNumber_0 : decode cX4_readDigitAndNumber 0 = .ok (.aload_n 0, 1) := by decide +kernel
theorem dX4_readDigitAndNumber_1 : decode cX4_readDigitAndNumber 1 = .ok (.aload_n 1, 1) := by decide +kernel
theorem dX4_readDigitAndNumber_2 : decode cX4_readDigitAndNumber 2 = .ok (.iconst 1, 1) := by decide +kernel
theorem dX4_readDigitAndNumber_3 : decode cX4_readDigitAndNumber 3 = .ok (.invokevirtual 81, 3) := by decide +kernel
theorem dX4_readDigitAndNumber_6 : decode cX4_readDigitAndNumber 6 = .ok (.ifCond .ne 5, 3) := by decide +kernel
theorem dX4_readDigitAndNumber_9 : decode cX4_readDigitAndNumber 9 = .ok (.iconst 0, 1) := by decide +kernel
theorem dX4_readDigitAndNumber_10 : decode cX4_readDigitAndNumber 10 = .ok (.ireturn, 1) := by decide +kernel
theorem dX4_readDigitAndNumber_11 : decode cX4_readDigitAndNumber 11 = .ok (.aload_n 0, 1) := by decide +kernel
theorem dX4_readDigitAndNumber_12 : decode cX4_readDigitAndNumber 12 = .ok (.getfield 84, 3) := by decide +kernel
theorem dX4_readDigitAndNumber_15 : decode cX4_readDigitAndNumber 15 = .ok (.istore_n 3, 1) := by decide +kernel
theorem dX4_readDigitAndNumber_16 : decode cX4_readDigitAndNumber 16 = .ok (.aload_n 0, 1) := by decide +kernel
theorem dX4_readDigitAndNumber_17 : decode cX4_readDigitAndNumber 17 = .ok (.aload_n 1, 1) := by decide +kernel
theorem dX4_readDigitAndNumber_18 : decode cX4_readDigitAndNumber 18 = .ok (.bipush 32, 2) := by decide +kernel
theorem dX4_readDigitAndNumber_20 : decode cX4_readDigitAndNumber 20 = .ok (.invokevirtual 38, 3) := by decide +kernel
theorem dX4_readDigitAndNumber_23 : decode cX4_readDigitAndNumber 23 = .ok (.ifCond .eq 29, 3) := by decide +kernel
theorem dX4_readDigitAndNumber_26 : decode cX4_readDigitAndNumber 26 = .ok (.aload_n 0, 1) := by decide +kernel
theorem dX4_readDigitAndNumber_27 : decode cX4_readDigitAndNumber 27 = .ok (.aload_n 1, 1) := by decide +kernel
theorem dX4_readDigitAndNumber_28 : decode cX4_readDigitAndNumber 28 = .ok (.iconst 4, 1) := by decide +kernel
theorem dX4_readDigitAndNumber_29 : decode cX4_readDigitAndNumber 29 = .ok (.invokevirtual 81, 3) := by decide +kernel
theorem dX4_readDigitAndNumber_32 : decode cX4_readDigitAndNumber 32 = .ok (.ifCond .eq 20, 3) := by decide +kernel
theorem dX4_readDigitAndNumber_35 : decode cX4_readDigitAndNumber 35 = .ok (.aload_n 0, 1) := by decide +kernel
theorem dX4_readDigitAndNumber_36 : decode cX4_readDigitAndNumber 36 = .ok (.iload_n 2, 1) := by decide +kernel
theorem dX4_readDigitAndNumber_37 : decode cX4_readDigitAndNumber 37 = .ok (.iload_n 3, 1) := by decide +kernel
theorem dX4_readDigitAndNumber_38 : decode cX4_readDigitAndNumber 38 = .ok (.aload_n 0, 1) := by decide +kernel
theorem dX4_readDigitAndNumber_39 : decode cX4_readDigitAndNumber 39 = .ok (.getfield 84, 3) := by decide +kernel
theorem dX4_readDigitAndNumber_42 : decode cX4_readDigitAndNumber 42 = .ok (.invokevirtual 77, 3) := by decide +kernel
theorem dX4_readDigitAndNumber_45 : decode cX4_readDigitAndNumber 45 = .ok (.ifCond .eq 7, 3) := by decide +kernel
theorem dX4_readDigitAndNumber_48 : decode cX4_readDigitAndNumber 48 = .ok (.iconst 1, 1) := by decide +kernel
theorem dX4_readDigitAndNumber_49 : decode cX4_readDigitAndNumber 49 = .ok (.goto 4, 3) := by decide +kernel
theorem dX4_readDigitAndNumber_52 : decode cX4_readDigitAndNumber 52 = .ok (.iconst 0, 1) := by decide +kernel
theorem dX4_readDigitAndNumber_53 : decode cX4_readDigitAndNumber 53 = .ok (.ireturn, 1) := by decide +kernel
theorem dX4_readNumberAndDigit_0 : decode cX4_readNumberAndDigit 0 = .ok (.aload_n 0, 1) := by decide +kernel
theorem dX4_readNumberAndDigit_1 : decode cX4_readNumberAndDigit 1 = .ok (.aload_n 1, 1) := by decide +kernel
theorem dX4_readNumberAndDigit_2 : decode cX4_readNumberAndDigit 2 = .ok (.iconst 4, 1) := by decide +kernel
theorem dX4_readNumberAndDigit_3 : decode cX4_readNumberAndDigit 3 = .ok (.invokevirtual 81, 3) := by decide +kernel
theorem dX4_readNumberAndDigit_6 : decode cX4_readNumberAndDigit 6 = .ok (.ifCond .ne 5, 3) := by decide +kernel
theorem dX4_readNumberAndDigit_9 : decode cX4_readNumberAndDigit 9 = .ok (.iconst 0, 1) := by decide +kernel
theorem dX4_readNumberAndDigit_10 : decode cX4_readNumberAndDigit 10 = .ok (.ireturn, 1) := by decide +kernel
theorem dX4_readNumberAndDigit_11 : decode cX4_readNumberAndDigit 11 = .ok (.aload_n 0, 1) := by decide +kernel
theorem dX4_readNumberAndDigit_12 : decode cX4_readNumberAndDigit 12 = .ok (.getfield 84, 3) := by decide +kernel
theorem dX4_readNumberAndDigit_15 : decode cX4_readNumberAndDigit 15 = .ok (.istore_n 2, 1) := by decide +kernel
theorem dX4_readNumberAndDigit_16 : decode cX4_readNumberAndDigit 16 = .ok (.aload_n 0, 1) := by decide +kernel
theorem dX4_readNumberAndDigit_17 : decode cX4_readNumberAndDigit 17 = .ok (.aload_n 1, 1) := by decide +kernel
theorem dX4_readNumberAndDigit_18 : decode cX4_readNumberAndDigit 18 = .ok (.bipush 32, 2) := by decide +kernel
theorem dX4_readNumberAndDigit_20 : decode cX4_readNumberAndDigit 20 = .ok (.invokevirtual 38, 3) := by decide +kernel
theorem dX4_readNumberAndDigit_23 : decode cX4_readNumberAndDigit 23 = .ok (.ifCond .eq 29, 3) := by decide +kernel
theorem dX4_readNumberAndDigit_26 : decode cX4_readNumberAndDigit 26 = .ok (.aload_n 0, 1) := by decide +kernel
theorem dX4_readNumberAndDigit_27 : decode cX4_readNumberAndDigit 27 = .ok (.aload_n 1, 1) := by decide +kernel
theorem dX4_readNumberAndDigit_28 : decode cX4_readNumberAndDigit 28 = .ok (.iconst 1, 1) := by decide +kernel
theorem dX4_readNumberAndDigit_29 : decode cX4_readNumberAndDigit 29 = .ok (.invokevirtual 81, 3) := by decide +kernel
theorem dX4_readNumberAndDigit_32 : decode cX4_readNumberAndDigit 32 = .ok (.ifCond .eq 20, 3) := by decide +kernel
theorem dX4_readNumberAndDigit_35 : decode cX4_readNumberAndDigit 35 = .ok (.aload_n 0, 1) := by decide +kernel
theorem dX4_readNumberAndDigit_36 : decode cX4_readNumberAndDigit 36 = .ok (.iconst 5, 1) := by decide +kernel
theorem dX4_readNumberAndDigit_37 : decode cX4_readNumberAndDigit 37 = .ok (.iload_n 2, 1) := by decide +kernel
theorem dX4_readNumberAndDigit_38 : decode cX4_readNumberAndDigit 38 = .ok (.aload_n 0, 1) := by decide +kernel
theorem dX4_readNumberAndDigit_39 : decode cX4_readNumberAndDigit 39 = .ok (.getfield 84, 3) := by decide +kernel
theorem dX4_readNumberAndDigit_42 : decode cX4_readNumberAndDigit 42 = .ok (.invokevirtual 77, 3) := by decide +kernel
theorem dX4_readNumberAndDigit_45 : decode cX4_readNumberAndDigit 45 = .ok (.ifCond .eq 7, 3) := by decide +kernel
theorem dX4_readNumberAndDigit_48 : decode cX4_readNumberAndDigit 48 = .ok (.iconst 1, 1) := by decide +kernel
theorem dX4_readNumberAndDigit_49 : decode cX4_readNumberAndDigit 49 = .ok (.goto 4, 3) := by decide +kernel
theorem dX4_readNumberAndDigit_52 : decode cX4_readNumberAndDigit 52 = .ok (.iconst 0, 1) := by decide +kernel
theorem dX4_readNumberAndDigit_53 : decode cX4_readNumberAndDigit 53 = .ok (.ireturn, 1) := by decide +kernel
theorem dX4_readMinutes_0 : decode cX4_readMinutes 0 = .ok (.aload_n 0, 1) := by decide +kernel
theorem dX4_readMinutes_1 : decode cX4_readMinutes 1 = .ok (.aload_n 1, 1) := by decide +kernel
theorem dX4_readMinutes_2 : decode cX4_readMinutes 2 = .ok (.iconst 4, 1) := by decide +kernel
theorem dX4_readMinutes_3 : decode cX4_readMinutes 3 = .ok (.invokevirtual 81, 3) := by decide +kernel
theorem dX4_readMinutes_6 : decode cX4_readMinutes 6 = .ok (.ifCond .eq 21, 3) := by decide +kernel
theorem dX4_readMinutes_9 : decode cX4_readMinutes 9 = .ok (.aload_n 0, 1) := by decide +kernel
theorem dX4_readMinutes_10 : decode cX4_readMinutes 10 = .ok (.bipush 7, 2) := by decide +kernel
theorem dX4_readMinutes_12 : decode cX4_readMinutes 12 = .ok (.aload_n 0, 1) := by decide +kernel
theorem dX4_readMinutes_13 : decode cX4_readMinutes 13 = .ok (.getfield 84, 3) := by decide +kernel
theorem dX4_readMinutes_16 : decode cX4_readMinutes 16 = .ok (.iconst 0, 1) := by decide +kernel
theorem dX4_readMinutes_17 : decode cX4_readMinutes 17 = .ok (.invokevirtual 77, 3) := by decide +kernel
theorem dX4_readMinutes_20 : decode cX4_readMinutes 20 = .ok (.ifCond .eq 7, 3) := by decide +kernel
theorem dX4_readMinutes_23 : decode cX4_readMinutes 23 = .ok (.iconst 1, 1) := by decide +kernel
theorem dX4_readMinutes_24 : decode cX4_readMinutes 24 = .ok (.goto 4, 3) := by decide +kernel
theorem dX4_readMinutes_27 : decode cX4_readMinutes 27 = .ok (.iconst 0, 1) := by decide +kernel
theorem dX4_readMinutes_28 : decode cX4_readMinutes 28 = .ok (.ireturn, 1) := by decide +kernel
theorem dX4_keep_0 : decode cX4_keep 0 = .ok (.aload_n 0, 1) := by decide +kernel
theorem dX4_keep_1 : decode cX4_keep 1 = .ok (.getfield 21, 3) := by decide +kernel
theorem dX4_keep_4 : decode cX4_keep 4 = .ok (.bipush 10, 2) := by decide +kernel
theorem dX4_keep_6 : decode cX4_keep 6 = .ok (.if_icmp .lt 5, 3) := by decide +kernel
theorem dX4_keep_9 : decode cX4_keep 9 = .ok (.iconst 0, 1) := by decide +kernel
theorem dX4_keep_10 : decode cX4_keep 10 = .ok (.ireturn, 1) := by decide +kernel
theorem dX4_keep_11 : decode cX4_keep 11 = .ok (.aload_n 0, 1) := by decide +kernel
theorem dX4_keep_12 : decode cX4_keep 12 = .ok (.getfield 9, 3) := by decide +kernel
theorem dX4_keep_15 : decode cX4_keep 15 = .ok (.aload_n 0, 1) := by decide +kernel
theorem dX4_keep_16 : decode cX4_keep 16 = .ok (.getfield 21, 3) := by decide +kernel
theorem dX4_keep_19 : decode cX4_keep 19 = .ok (.iload_n 1, 1) := by decide +kernel
theorem dX4_keep_20 : decode cX4_keep 20 = .ok (.iastore, 1) := by decide +kernel
theorem dX4_keep_21 : decode cX4_keep 21 = .ok (.aload_n 0, 1) := by decide +kernel
theorem dX4_keep_22 : decode cX4_keep 22 = .ok (.getfield 15, 3) := by decide +kernel
theorem dX4_keep_25 : decode cX4_keep 25 = .ok (.aload_n 0, 1) := by decide +kernel
theorem dX4_keep_26 : decode cX4_keep 26 = .ok (.getfield 21, 3) := by decide +kernel
theorem dX4_keep_29 : decode cX4_keep 29 = .ok (.iload_n 2, 1) := by decide +kernel
theorem dX4_keep_30 : decode cX4_keep 30 = .ok (.iastore, 1) := by decide +kernel
theorem dX4_keep_31 : decode cX4_keep 31 = .ok (.aload_n 0, 1) := by decide +kernel
theorem dX4_keep_32 : decode cX4_keep 32 = .ok (.getfield 18, 3) := by decide +kernel
theorem dX4_keep_35 : decode cX4_keep 35 = .ok (.aload_n 0, 1) := by decide +kernel
theorem dX4_keep_36 : decode cX4_keep 36 = .ok (.getfield 21, 3) := by decide +kernel
theorem dX4_keep_39 : decode cX4_keep 39 = .ok (.iload_n 3, 1) := by decide +kernel
theorem dX4_keep_40 : decode cX4_keep 40 = .ok (.iastore, 1) := by decide +kernel
theorem dX4_keep_41 : decode cX4_keep 41 = .ok (.aload_n 0, 1) := by decide +kernel
theorem dX4_keep_42 : decode cX4_keep 42 = .ok (.dup, 1) := by decide +kernel
theorem dX4_keep_43 : decode cX4_keep 43 = .ok (.getfield 21, 3) := by decide +kernel
theorem dX4_keep_46 : decode cX4_keep 46 = .ok (.iconst 1, 1) := by decide +kernel
theorem dX4_keep_47 : decode cX4_keep 47 = .ok (.iadd, 1) := by decide +kernel
theorem dX4_keep_48 : decode cX4_keep 48 = .ok (.putfield 21, 3) := by decide +kernel
theorem dX4_keep_51 : decode cX4_keep 51 = .ok (.iconst 1, 1) := by decide +kernel
theorem dX4_keep_52 : decode cX4_keep 52 = .ok (.ireturn, 1) := by decide +kernel
theorem dX4_readWord_0 : decode cX4_readWord 0 = .ok (.iconst 0, 1) := by decide +kernel
theorem dX4_readWord_1 : decode cX4_readWord 1 = .ok (.istore_n 3, 1) := by decide +kernel
theorem dX4_readWord_2 : decode cX4_readWord 2 = .ok (.iload_n 3, 1) := by decide +kernel
theorem dX4_readWord_3 : decode cX4_readWord 3 = .ok (.aload_n 2, 1) := by decide +kernel
theorem dX4_readWord_4 : decode cX4_readWord 4 = .ok (.invokevirtual 87, 3) := by decide +kernel
theorem dX4_readWord_7 : decode cX4_readWord 7 = .ok (.if_icmp .ge 24, 3) := by decide +kernel
theorem dX4_readWord_10 : decode cX4_readWord 10 = .ok (.aload_n 0, 1) := by decide +kernel
theorem dX4_readWord_11 : decode cX4_readWord 11 = .ok (.aload_n 1, 1) := by decide +kernel
theorem dX4_readWord_12 : decode cX4_readWord 12 = .ok (.aload_n 2, 1) := by decide +kernel
theorem dX4_readWord_13 : decode cX4_readWord 13 = .ok (.iload_n 3, 1) := by decide +kernel
theorem dX4_readWord_14 : decode cX4_readWord 14 = .ok (.invokevirtual 90, 3) := by decide +kernel
theorem dX4_readWord_17 : decode cX4_readWord 17 = .ok (.invokevirtual 38, 3) := by decide +kernel
theorem dX4_readWord_20 : decode cX4_readWord 20 = .ok (.ifCond .ne 5, 3) := by decide +kernel
theorem dX4_readWord_23 : decode cX4_readWord 23 = .ok (.iconst 0, 1) := by decide +kernel
theorem dX4_readWord_24 : decode cX4_readWord 24 = .ok (.ireturn, 1) := by decide +kernel
theorem dX4_readWord_25 : decode cX4_readWord 25 = .ok (.iinc 3 1, 3) := by decide +kernel
theorem dX4_readWord_28 : decode cX4_readWord 28 = .ok (.goto (-26), 3) := by decide +kernel
theorem dX4_readWord_31 : decode cX4_readWord 31 = .ok (.iconst 1, 1) := by decide +kernel
theorem dX4_readWord_32 : decode cX4_readWord 32 = .ok (.ireturn, 1) := by decide +kernel
theorem dX4_readSign_0 : decode cX4_readSign 0 = .ok (.aload_n 0, 1) := by decide +kernel
theorem dX4_readSign_1 : decode cX4_readSign 1 = .ok (.getfield 25, 3) := by decide +kernel
theorem dX4_readSign_4 : decode cX4_readSign 4 = .ok (.aload_n 1, 1) := by decide +kernel
theorem dX4_readSign_5 : decode cX4_readSign 5 = .ok (.invokevirtual 32, 3) := by decide +kernel
theorem dX4_readSign_8 : decode cX4_readSign 8 = .ok (.if_icmp .ge 15, 3) := by decide +kernel
theorem dX4_readSign_11 : decode cX4_readSign 11 = .ok (.aload_n 1, 1) := by decide +kernel
theorem dX4_readSign_12 : decode cX4_readSign 12 = .ok (.aload_n 0, 1) := by decide +kernel
theorem dX4_readSign_13 : decode cX4_readSign 13 = .ok (.getfield 25, 3) := by decide +kernel
theorem dX4_readSign_16 : decode cX4_readSign 16 = .ok (.invokevirtual 42, 3) := by decide +kernel
theorem dX4_readSign_19 : decode cX4_readSign 19 = .ok (.iload_n 2, 1) := by decide +kernel
theorem dX4_readSign_20 : decode cX4_readSign 20 = .ok (.if_icmp .eq 5, 3) := by decide +kernel
theorem dX4_readSign_23 : decode cX4_readSign 23 = .ok (.iconst 0, 1) := by decide +kernel
theorem dX4_readSign_24 : decode cX4_readSign 24 = .ok (.ireturn, 1) := by decide +kernel
theorem dX4_readSign_25 : decode cX4_readSign 25 = .ok (.aload_n 0, 1) := by decide +kernel
theorem dX4_readSign_26 : decode cX4_readSign 26 = .ok (.dup, 1) := by decide +kernel
theorem dX4_readSign_27 : decode cX4_readSign 27 = .ok (.getfield 25, 3) := by decide +kernel
theorem dX4_readSign_30 : decode cX4_readSign 30 = .ok (.iconst 1, 1) := by decide +kernel
theorem dX4_readSign_31 : decode cX4_readSign 31 = .ok (.iadd, 1) := by decide +kernel
theorem dX4_readSign_32 : decode cX4_readSign 32 = .ok (.putfield 25, 3) := by decide +kernel
theorem dX4_readSign_35 : decode cX4_readSign 35 = .ok (.iconst 1, 1) := by decide +kernel
theorem dX4_readSign_36 : decode cX4_readSign 36 = .ok (.ireturn, 1) := by decide +kernel
theorem dX4_readNumber_0 : decode cX4_readNumber 0 = .ok (.iconst 0, 1) := by decide +kernel
theorem dX4_readNumber_1 : decode cX4_readNumber 1 = .ok (.istore_n 3, 1) := by decide +kernel
theorem dX4_readNumber_2 : decode cX4_readNumber 2 = .ok (.aload_n 0, 1) := by decide +kernel
theorem dX4_readNumber_3 : decode cX4_readNumber 3 = .ok (.iconst 0, 1) := by decide +kernel
theorem dX4_readNumber_4 : decode cX4_readNumber 4 = .ok (.putfield 84, 3) := by decide +kernel
theorem dX4_readNumber_7 : decode cX4_readNumber 7 = .ok (.iconst 0, 1) := by decide +kernel
theorem dX4_readNumber_8 : decode cX4_readNumber 8 = .ok (.istore 4, 2) := by decide +kernel
theorem dX4_readNumber_10 : decode cX4_readNumber 10 = .ok (.iload 4, 2) := by decide +kernel
theorem dX4_readNumber_12 : decode cX4_readNumber 12 = .ok (.iload_n 2, 1) := by decide +kernel
theorem dX4_readNumber_13 : decode cX4_readNumber 13 = .ok (.if_icmp .ge 53, 3) := by decide +kernel
theorem dX4_readNumber_16 : decode cX4_readNumber 16 = .ok (.aload_n 0, 1) := by decide +kernel
theorem dX4_readNumber_17 : decode cX4_readNumber 17 = .ok (.aload_n 1, 1) := by decide +kernel
theorem dX4_readNumber_18 : decode cX4_readNumber 18 = .ok (.invokevirtual 91, 3) := by decide +kernel
theorem dX4_readNumber_21 : decode cX4_readNumber 21 = .ok (.ifCond .eq 45, 3) := by decide +kernel
theorem dX4_readNumber_24 : decode cX4_readNumber 24 = .ok (.aload_n 0, 1) := by decide +kernel
theorem dX4_readNumber_25 : decode cX4_readNumber 25 = .ok (.aload_n 0, 1) := by decide +kernel
theorem dX4_readNumber_26 : decode cX4_readNumber 26 = .ok (.getfield 84, 3) := by decide +kernel
theorem dX4_readNumber_29 : decode cX4_readNumber 29 = .ok (.bipush 10, 2) := by decide +kernel
theorem dX4_readNumber_31 : decode cX4_readNumber 31 = .ok (.imul, 1) := by decide +kernel
theorem dX4_readNumber_32 : decode cX4_readNumber 32 = .ok (.aload_n 1, 1) := by decide +kernel
theorem dX4_readNumber_33 : decode cX4_readNumber 33 = .ok (.aload_n 0, 1) := by decide +kernel
theorem dX4_readNumber_34 : decode cX4_readNumber 34 = .ok (.getfield 25, 3) := by decide +kernel
theorem dX4_readNumber_37 : decode cX4_readNumber 37 = .ok (.invokevirtual 42, 3) := by decide +kernel
theorem dX4_readNumber_40 : decode cX4_readNumber 40 = .ok (.bipush 48, 2) := by decide +kernel
theorem dX4_readNumber_42 : decode cX4_readNumber 42 = .ok (.isub, 1) := by decide +kernel
theorem dX4_readNumber_43 : decode cX4_readNumber 43 = .ok (.iadd, 1) := by decide +kernel
theorem dX4_readNumber_44 : decode cX4_readNumber 44 = .ok (.putfield 84, 3) := by decide +kernel
theorem dX4_readNumber_47 : decode cX4_readNumber 47 = .ok (.aload_n 0, 1) := by decide +kernel
theorem dX4_readNumber_48 : decode cX4_readNumber 48 = .ok (.dup, 1) := by decide +kernel
theorem dX4_readNumber_49 : decode cX4_readNumber 49 = .ok (.getfield 25, 3) := by decide +kernel
theorem dX4_readNumber_52 : decode cX4_readNumber 52 = .ok (.iconst 1, 1) := by decide +kernel
theorem dX4_readNumber_53 : decode cX4_readNumber 53 = .ok (.iadd, 1) := by decide +kernel
theorem dX4_readNumber_54 : decode cX4_readNumber 54 = .ok (.putfield 25, 3) := by decide +kernel
theorem dX4_readNumber_57 : decode cX4_readNumber 57 = .ok (.iinc 3 1, 3) := by decide +kernel
theorem dX4_readNumber_60 : decode cX4_readNumber 60 = .ok (.iinc 4 1, 3) := by decide +kernel
theorem dX4_readNumber_63 : decode cX4_readNumber 63 = .ok (.goto (-53), 3) := by decide +kernel
theorem dX4_readNumber_66 : decode cX4_readNumber 66 = .ok (.iload_n 3, 1) := by decide +kernel
theorem dX4_readNumber_67 : decode cX4_readNumber 67 = .ok (.ifCond .le 7, 3) := by decide +kernel
theorem dX4_readNumber_70 : decode cX4_readNumber 70 = .ok (.iconst 1, 1) := by decide +kernel
theorem dX4_readNumber_71 : decode cX4_readNumber 71 = .ok (.goto 4, 3) := by decide +kernel
theorem dX4_readNumber_74 : decode cX4_readNumber 74 = .ok (.iconst 0, 1) := by decide +kernel
theorem dX4_readNumber_75 : decode cX4_readNumber 75 = .ok (.ireturn, 1) := by decide +kernel
theorem dX4_isDigitNext_0 : decode cX4_isDigitNext 0 = .ok (.aload_n 0, 1) := by decide +kernel
theorem dX4_isDigitNext_1 : decode cX4_isDigitNext 1 = .ok (.getfield 25, 3) := by decide +kernel
theorem dX4_isDigitNext_4 : decode cX4_isDigitNext 4 = .ok (.aload_n 1, 1) := by decide +kernel
theorem dX4_isDigitNext_5 : decode cX4_isDigitNext 5 = .ok (.invokevirtual 32, 3) := by decide +kernel
theorem dX4_isDigitNext_8 : decode cX4_isDigitNext 8 = .ok (.if_icmp .ge 33, 3) := by decide +kernel
theorem dX4_isDigitNext_11 : decode cX4_isDigitNext 11 = .ok (.aload_n 1, 1) := by decide +kernel
theorem dX4_isDigitNext_12 : decode cX4_isDigitNext 12 = .ok (.aload_n 0, 1) := by decide +kernel
theorem dX4_isDigitNext_13 : decode cX4_isDigitNext 13 = .ok (.getfield 25, 3) := by decide +kernel
theorem dX4_isDigitNext_16 : decode cX4_isDigitNext 16 = .ok (.invokevirtual 42, 3) := by decide +kernel
theorem dX4_isDigitNext_19 : decode cX4_isDigitNext 19 = .ok (.bipush 48, 2) := by decide +kernel
theorem dX4_isDigitNext_21 : decode cX4_isDigitNext 21 = .ok (.if_icmp .lt 20, 3) := by decide +kernel
theorem dX4_isDigitNext_24 : decode cX4_isDigitNext 24 = .ok (.aload_n 1, 1) := by decide +kernel
theorem dX4_isDigitNext_25 : decode cX4_isDigitNext 25 = .ok (.aload_n 0, 1) := by decide +kernel
theorem dX4_isDigitNext_26 : decode cX4_isDigitNext 26 = .ok (.getfield 25, 3) := by decide +kernel
theorem dX4_isDigitNext_29 : decode cX4_isDigitNext 29 = .ok (.invokevirtual 42, 3) := by decide +kernel
theorem dX4_isDigitNext_32 : decode cX4_isDigitNext 32 = .ok (.bipush 57, 2) := by decide +kernel
theorem dX4_isDigitNext_34 : decode cX4_isDigitNext 34 = .ok (.if_icmp .gt 7, 3) := by decide +kernel
theorem dX4_isDigitNext_37 : decode cX4_isDigitNext 37 = .ok (.iconst 1, 1) := by decide +kernel
theorem dX4_isDigitNext_38 : decode cX4_isDigitNext 38 = .ok (.goto 4, 3) := by decide +kernel
theorem dX4_isDigitNext_41 : decode cX4_isDigitNext 41 = .ok (.iconst 0, 1) := by decide +kernel
theorem dX4_isDigitNext_42 : decode cX4_isDigitNext 42 = .ok (.ireturn, 1) := by decide +kernel
