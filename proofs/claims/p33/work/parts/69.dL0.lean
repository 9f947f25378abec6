theorem dL_roll_0 : decode cL_roll 0 = .ok (.iload_n 1, 1) := by decide +kernel
theorem dL_roll_1 : decode cL_roll 1 = .ok (.aload_n 0, 1) := by decide +kernel
theorem dL_roll_2 : decode cL_roll 2 = .ok (.arraylength, 1) := by decide +kernel
theorem dL_roll_3 : decode cL_roll 3 = .ok (.if_icmp .ge 9, 3) := by decide +kernel
theorem dL_roll_6 : decode cL_roll 6 = .ok (.aload_n 0, 1) := by decide +kernel
theorem dL_roll_7 : decode cL_roll 7 = .ok (.iload_n 1, 1) := by decide +kernel
theorem dL_roll_8 : decode cL_roll 8 = .ok (.iaload, 1) := by decide +kernel
theorem dL_roll_9 : decode cL_roll 9 = .ok (.goto 23, 3) := by decide +kernel
theorem dL_roll_12 : decode cL_roll 12 = .ok (.ldc 7, 2) := by decide +kernel
theorem dL_roll_14 : decode cL_roll 14 = .ok (.iload_n 1, 1) := by decide +kernel
theorem dL_roll_15 : decode cL_roll 15 = .ok (.sipush 659, 3) := by decide +kernel
theorem dL_roll_18 : decode cL_roll 18 = .ok (.iadd, 1) := by decide +kernel
theorem dL_roll_19 : decode cL_roll 19 = .ok (.imul, 1) := by decide +kernel
theorem dL_roll_20 : decode cL_roll 20 = .ok (.sipush 975, 3) := by decide +kernel
theorem dL_roll_23 : decode cL_roll 23 = .ok (.iload_n 1, 1) := by decide +kernel
theorem dL_roll_24 : decode cL_roll 24 = .ok (.imul, 1) := by decide +kernel
theorem dL_roll_25 : decode cL_roll 25 = .ok (.iload_n 1, 1) := by decide +kernel
theorem dL_roll_26 : decode cL_roll 26 = .ok (.imul, 1) := by decide +kernel
theorem dL_roll_27 : decode cL_roll 27 = .ok (.iadd, 1) := by decide +kernel
theorem dL_roll_28 : decode cL_roll 28 = .ok (.sipush 521, 3) := by decide +kernel
theorem dL_roll_31 : decode cL_roll 31 = .ok (.iadd, 1) := by decide +kernel
theorem dL_roll_32 : decode cL_roll 32 = .ok (.ldc 8, 2) := by decide +kernel
theorem dL_roll_34 : decode cL_roll 34 = .ok (.iand, 1) := by decide +kernel
theorem dL_roll_35 : decode cL_roll 35 = .ok (.ireturn, 1) := by decide +kernel
theorem dL_act_0 : decode cL_act 0 = .ok (.iload_n 1, 1) := by decide +kernel
theorem dL_act_1 : decode cL_act 1 = .ok (.ifCond .ne 15, 3) := by decide +kernel
theorem dL_act_4 : decode cL_act 4 = .ok (.aload_n 0, 1) := by decide +kernel
theorem dL_act_5 : decode cL_act 5 = .ok (.iload_n 2, 1) := by decide +kernel
theorem dL_act_6 : decode cL_act 6 = .ok (.iload_n 3, 1) := by decide +kernel
theorem dL_act_7 : decode cL_act 7 = .ok (.iload 4, 2) := by decide +kernel
theorem dL_act_9 : decode cL_act 9 = .ok (.invokevirtual 9, 3) := by decide +kernel
theorem dL_act_12 : decode cL_act 12 = .ok (.i2l, 1) := by decide +kernel
theorem dL_act_13 : decode cL_act 13 = .ok (.goto 430, 3) := by decide +kernel
theorem dL_act_16 : decode cL_act 16 = .ok (.iload_n 1, 1) := by decide +kernel
theorem dL_act_17 : decode cL_act 17 = .ok (.iconst 1, 1) := by decide +kernel
theorem dL_act_18 : decode cL_act 18 = .ok (.if_icmp .ne 13, 3) := by decide +kernel
theorem dL_act_21 : decode cL_act 21 = .ok (.aload_n 0, 1) := by decide +kernel
theorem dL_act_22 : decode cL_act 22 = .ok (.iload_n 2, 1) := by decide +kernel
theorem dL_act_23 : decode cL_act 23 = .ok (.iload_n 3, 1) := by decide +kernel
theorem dL_act_24 : decode cL_act 24 = .ok (.invokevirtual 15, 3) := by decide +kernel
theorem dL_act_27 : decode cL_act 27 = .ok (.i2l, 1) := by decide +kernel
theorem dL_act_28 : decode cL_act 28 = .ok (.goto 415, 3) := by decide +kernel
theorem dL_act_31 : decode cL_act 31 = .ok (.iload_n 1, 1) := by decide +kernel
theorem dL_act_32 : decode cL_act 32 = .ok (.iconst 2, 1) := by decide +kernel
theorem dL_act_33 : decode cL_act 33 = .ok (.if_icmp .ne 17, 3) := by decide +kernel
theorem dL_act_36 : decode cL_act 36 = .ok (.aload_n 0, 1) := by decide +kernel
theorem dL_act_37 : decode cL_act 37 = .ok (.iload_n 2, 1) := by decide +kernel
theorem dL_act_38 : decode cL_act 38 = .ok (.iload_n 3, 1) := by decide +kernel
theorem dL_act_39 : decode cL_act 39 = .ok (.iload 4, 2) := by decide +kernel
theorem dL_act_41 : decode cL_act 41 = .ok (.iload 5, 2) := by decide +kernel
theorem dL_act_43 : decode cL_act 43 = .ok (.invokevirtual 19, 3) := by decide +kernel
theorem dL_act_46 : decode cL_act 46 = .ok (.i2l, 1) := by decide +kernel
theorem dL_act_47 : decode cL_act 47 = .ok (.goto 396, 3) := by decide +kernel
theorem dL_act_50 : decode cL_act 50 = .ok (.iload_n 1, 1) := by decide +kernel
theorem dL_act_51 : decode cL_act 51 = .ok (.iconst 3, 1) := by decide +kernel
theorem dL_act_52 : decode cL_act 52 = .ok (.if_icmp .ne 11, 3) := by decide +kernel
theorem dL_act_55 : decode cL_act 55 = .ok (.aload_n 0, 1) := by decide +kernel
theorem dL_act_56 : decode cL_act 56 = .ok (.iload_n 2, 1) := by decide +kernel
theorem dL_act_57 : decode cL_act 57 = .ok (.invokevirtual 23, 3) := by decide +kernel
theorem dL_act_60 : decode cL_act 60 = .ok (.goto 383, 3) := by decide +kernel
theorem dL_act_63 : decode cL_act 63 = .ok (.iload_n 1, 1) := by decide +kernel
theorem dL_act_64 : decode cL_act 64 = .ok (.iconst 4, 1) := by decide +kernel
theorem dL_act_65 : decode cL_act 65 = .ok (.if_icmp .ne 12, 3) := by decide +kernel
theorem dL_act_68 : decode cL_act 68 = .ok (.aload_n 0, 1) := by decide +kernel
theorem dL_act_69 : decode cL_act 69 = .ok (.iload_n 2, 1) := by decide +kernel
theorem dL_act_70 : decode cL_act 70 = .ok (.invokevirtual 27, 3) := by decide +kernel
theorem dL_act_73 : decode cL_act 73 = .ok (.i2l, 1) := by decide +kernel
theorem dL_act_74 : decode cL_act 74 = .ok (.goto 369, 3) := by decide +kernel
theorem dL_act_77 : decode cL_act 77 = .ok (.iload_n 1, 1) := by decide +kernel
theorem dL_act_78 : decode cL_act 78 = .ok (.iconst 5, 1) := by decide +kernel
theorem dL_act_79 : decode cL_act 79 = .ok (.if_icmp .ne 15, 3) := by decide +kernel
theorem dL_act_82 : decode cL_act 82 = .ok (.aload_n 0, 1) := by decide +kernel
theorem dL_act_83 : decode cL_act 83 = .ok (.iload_n 2, 1) := by decide +kernel
theorem dL_act_84 : decode cL_act 84 = .ok (.iload_n 3, 1) := by decide +kernel
theorem dL_act_85 : decode cL_act 85 = .ok (.iload 4, 2) := by decide +kernel
theorem dL_act_87 : decode cL_act 87 = .ok (.invokevirtual 31, 3) := by decide +kernel
theorem dL_act_90 : decode cL_act 90 = .ok (.i2l, 1) := by decide +kernel
theorem dL_act_91 : decode cL_act 91 = .ok (.goto 352, 3) := by decide +kernel
theorem dL_act_94 : decode cL_act 94 = .ok (.iload_n 1, 1) := by decide +kernel
theorem dL_act_95 : decode cL_act 95 = .ok (.bipush 6, 2) := by decide +kernel
theorem dL_act_97 : decode cL_act 97 = .ok (.if_icmp .ne 11, 3) := by decide +kernel
theorem dL_act_100 : decode cL_act 100 = .ok (.aload_n 0, 1) := by decide +kernel
theorem dL_act_101 : decode cL_act 101 = .ok (.iload_n 2, 1) := by decide +kernel
theorem dL_act_102 : decode cL_act 102 = .ok (.invokevirtual 34, 3) := by decide +kernel
theorem dL_act_105 : decode cL_act 105 = .ok (.goto 338, 3) := by decide +kernel
theorem dL_act_108 : decode cL_act 108 = .ok (.iload_n 1, 1) := by decide +kernel
theorem dL_act_109 : decode cL_act 109 = .ok (.bipush 7, 2) := by decide +kernel
theorem dL_act_111 : decode cL_act 111 = .ok (.if_icmp .ne 12, 3) := by decide +kernel
theorem dL_act_114 : decode cL_act 114 = .ok (.aload_n 0, 1) := by decide +kernel
theorem dL_act_115 : decode cL_act 115 = .ok (.iload_n 2, 1) := by decide +kernel
theorem dL_act_116 : decode cL_act 116 = .ok (.iload_n 3, 1) := by decide +kernel
theorem dL_act_117 : decode cL_act 117 = .ok (.invokevirtual 37, 3) := by decide +kernel
theorem dL_act_120 : decode cL_act 120 = .ok (.goto 323, 3) := by decide +kernel
theorem dL_act_123 : decode cL_act 123 = .ok (.iload_n 1, 1) := by decide +kernel
theorem dL_act_124 : decode cL_act 124 = .ok (.bipush 8, 2) := by decide +kernel
theorem dL_act_126 : decode cL_act 126 = .ok (.if_icmp .ne 12, 3) := by decide +kernel
theorem dL_act_129 : decode cL_act 129 = .ok (.aload_n 0, 1) := by decide +kernel
theorem dL_act_130 : decode cL_act 130 = .ok (.iload_n 2, 1) := by decide +kernel
theorem dL_act_131 : decode cL_act 131 = .ok (.iload_n 3, 1) := by decide +kernel
theorem dL_act_132 : decode cL_act 132 = .ok (.invokevirtual 41, 3) := by decide +kernel
theorem dL_act_135 : decode cL_act 135 = .ok (.goto 308, 3) := by decide +kernel
theorem dL_act_138 : decode cL_act 138 = .ok (.iload_n 1, 1) := by decide +kernel
theorem dL_act_139 : decode cL_act 139 = .ok (.bipush 9, 2) := by decide +kernel
theorem dL_act_141 : decode cL_act 141 = .ok (.if_icmp .ne 24, 3) := by decide +kernel
theorem dL_act_144 : decode cL_act 144 = .ok (.aload_n 0, 1) := by decide +kernel
theorem dL_act_145 : decode cL_act 145 = .ok (.iload_n 2, 1) := by decide +kernel
theorem dL_act_146 : decode cL_act 146 = .ok (.iload_n 3, 1) := by decide +kernel
theorem dL_act_147 : decode cL_act 147 = .ok (.iload 4, 2) := by decide +kernel
theorem dL_act_149 : decode cL_act 149 = .ok (.iconst 1, 1) := by decide +kernel
theorem dL_act_150 : decode cL_act 150 = .ok (.if_icmp .ne 7, 3) := by decide +kernel
theorem dL_act_153 : decode cL_act 153 = .ok (.iconst 1, 1) := by decide +kernel
theorem dL_act_154 : decode cL_act 154 = .ok (.goto 4, 3) := by decide +kernel
theorem dL_act_157 : decode cL_act 157 = .ok (.iconst 0, 1) := by decide +kernel
theorem dL_act_158 : decode cL_act 158 = .ok (.invokevirtual 44, 3) := by decide +kernel
theorem dL_act_161 : decode cL_act 161 = .ok (.i2l, 1) := by decide +kernel
theorem dL_act_162 : decode cL_act 162 = .ok (.goto 281, 3) := by decide +kernel
theorem dL_act_165 : decode cL_act 165 = .ok (.iload_n 1, 1) := by decide +kernel
theorem dL_act_166 : decode cL_act 166 = .ok (.bipush 10, 2) := by decide +kernel
theorem dL_act_168 : decode cL_act 168 = .ok (.if_icmp .ne 12, 3) := by decide +kernel
theorem dL_act_171 : decode cL_act 171 = .ok (.aload_n 0, 1) := by decide +kernel
theorem dL_act_172 : decode cL_act 172 = .ok (.iload_n 2, 1) := by decide +kernel
theorem dL_act_173 : decode cL_act 173 = .ok (.invokevirtual 48, 3) := by decide +kernel
theorem dL_act_176 : decode cL_act 176 = .ok (.i2l, 1) := by decide +kernel
theorem dL_act_177 : decode cL_act 177 = .ok (.goto 266, 3) := by decide +kernel
theorem dL_act_180 : decode cL_act 180 = .ok (.iload_n 1, 1) := by decide +kernel
theorem dL_act_181 : decode cL_act 181 = .ok (.bipush 11, 2) := by decide +kernel
theorem dL_act_183 : decode cL_act 183 = .ok (.if_icmp .ne 12, 3) := by decide +kernel
theorem dL_act_186 : decode cL_act 186 = .ok (.aload_n 0, 1) := by decide +kernel
theorem dL_act_187 : decode cL_act 187 = .ok (.iload_n 2, 1) := by decide +kernel
theorem dL_act_188 : decode cL_act 188 = .ok (.invokevirtual 51, 3) := by decide +kernel
theorem dL_act_191 : decode cL_act 191 = .ok (.i2l, 1) := by decide +kernel
theorem dL_act_192 : decode cL_act 192 = .ok (.goto 251, 3) := by decide +kernel
theorem dL_act_195 : decode cL_act 195 = .ok (.iload_n 1, 1) := by decide +kernel
theorem dL_act_196 : decode cL_act 196 = .ok (.bipush 12, 2) := by decide +kernel
theorem dL_act_198 : decode cL_act 198 = .ok (.if_icmp .ne 12, 3) := by decide +kernel
theorem dL_act_201 : decode cL_act 201 = .ok (.aload_n 0, 1) := by decide +kernel
theorem dL_act_202 : decode cL_act 202 = .ok (.iload_n 2, 1) := by decide +kernel
theorem dL_act_203 : decode cL_act 203 = .ok (.invokevirtual 54, 3) := by decide +kernel
theorem dL_act_206 : decode cL_act 206 = .ok (.i2l, 1) := by decide +kernel
theorem dL_act_207 : decode cL_act 207 = .ok (.goto 236, 3) := by decide +kernel
theorem dL_act_210 : decode cL_act 210 = .ok (.iload_n 1, 1) := by decide +kernel
theorem dL_act_211 : decode cL_act 211 = .ok (.bipush 13, 2) := by decide +kernel
theorem dL_act_213 : decode cL_act 213 = .ok (.if_icmp .ne 11, 3) := by decide +kernel
theorem dL_act_216 : decode cL_act 216 = .ok (.aload_n 0, 1) := by decide +kernel
theorem dL_act_217 : decode cL_act 217 = .ok (.iload_n 2, 1) := by decide +kernel
theorem dL_act_218 : decode cL_act 218 = .ok (.invokevirtual 57, 3) := by decide +kernel
theorem dL_act_221 : decode cL_act 221 = .ok (.goto 222, 3) := by decide +kernel
theorem dL_act_224 : decode cL_act 224 = .ok (.iload_n 1, 1) := by decide +kernel
theorem dL_act_225 : decode cL_act 225 = .ok (.bipush 14, 2) := by decide +kernel
theorem dL_act_227 : decode cL_act 227 = .ok (.if_icmp .ne 19, 3) := by decide +kernel
theorem dL_act_230 : decode cL_act 230 = .ok (.aload_n 0, 1) := by decide +kernel
theorem dL_act_231 : decode cL_act 231 = .ok (.iload_n 2, 1) := by decide +kernel
theorem dL_act_232 : decode cL_act 232 = .ok (.iload_n 3, 1) := by decide +kernel
theorem dL_act_233 : decode cL_act 233 = .ok (.iload 4, 2) := by decide +kernel
theorem dL_act_235 : decode cL_act 235 = .ok (.invokevirtual 60, 3) := by decide +kernel
theorem dL_act_238 : decode cL_act 238 = .ok (.ldc 64, 2) := by decide +kernel
theorem dL_act_240 : decode cL_act 240 = .ok (.fmul, 1) := by decide +kernel
theorem dL_act_241 : decode cL_act 241 = .ok (.f2i, 1) := by decide +kernel
theorem dL_act_242 : decode cL_act 242 = .ok (.i2l, 1) := by decide +kernel
theorem dL_act_243 : decode cL_act 243 = .ok (.goto 200, 3) := by decide +kernel
theorem dL_act_246 : decode cL_act 246 = .ok (.iload_n 1, 1) := by decide +kernel
theorem dL_act_247 : decode cL_act 247 = .ok (.bipush 15, 2) := by decide +kernel
theorem dL_act_249 : decode cL_act 249 = .ok (.if_icmp .ne 13, 3) := by decide +kernel
theorem dL_act_252 : decode cL_act 252 = .ok (.aload_n 0, 1) := by decide +kernel
theorem dL_act_253 : decode cL_act 253 = .ok (.iload_n 2, 1) := by decide +kernel
theorem dL_act_254 : decode cL_act 254 = .ok (.invokevirtual 65, 3) := by decide +kernel
theorem dL_act_257 : decode cL_act 257 = .ok (.f2i, 1) := by decide +kernel
theorem dL_act_258 : decode cL_act 258 = .ok (.i2l, 1) := by decide +kernel
theorem dL_act_259 : decode cL_act 259 = .ok (.goto 184, 3) := by decide +kernel
theorem dL_act_262 : decode cL_act 262 = .ok (.iload_n 1, 1) := by decide +kernel
theorem dL_act_263 : decode cL_act 263 = .ok (.bipush 16, 2) := by decide +kernel
theorem dL_act_265 : decode cL_act 265 = .ok (.if_icmp .ne 13, 3) := by decide +kernel
theorem dL_act_268 : decode cL_act 268 = .ok (.aload_n 0, 1) := by decide +kernel
theorem dL_act_269 : decode cL_act 269 = .ok (.iload_n 2, 1) := by decide +kernel
theorem dL_act_270 : decode cL_act 270 = .ok (.iload_n 3, 1) := by decide +kernel
theorem dL_act_271 : decode cL_act 271 = .ok (.invokevirtual 69, 3) := by decide +kernel
theorem dL_act_274 : decode cL_act 274 = .ok (.i2l, 1) := by decide +kernel
theorem dL_act_275 : decode cL_act 275 = .ok (.goto 168, 3) := by decide +kernel
theorem dL_act_278 : decode cL_act 278 = .ok (.iload_n 1, 1) := by decide +kernel
theorem dL_act_279 : decode cL_act 279 = .ok (.bipush 17, 2) := by decide +kernel
theorem dL_act_281 : decode cL_act 281 = .ok (.if_icmp .ne 12, 3) := by decide +kernel
theorem dL_act_284 : decode cL_act 284 = .ok (.aload_n 0, 1) := by decide +kernel
theorem dL_act_285 : decode cL_act 285 = .ok (.iload_n 2, 1) := by decide +kernel
theorem dL_act_286 : decode cL_act 286 = .ok (.invokevirtual 72, 3) := by decide +kernel
theorem dL_act_289 : decode cL_act 289 = .ok (.i2l, 1) := by decide +kernel
theorem dL_act_290 : decode cL_act 290 = .ok (.goto 153, 3) := by decide +kernel
theorem dL_act_293 : decode cL_act 293 = .ok (.iload_n 1, 1) := by decide +kernel
theorem dL_act_294 : decode cL_act 294 = .ok (.bipush 18, 2) := by decide +kernel
theorem dL_act_296 : decode cL_act 296 = .ok (.if_icmp .ne 12, 3) := by decide +kernel
theorem dL_act_299 : decode cL_act 299 = .ok (.aload_n 0, 1) := by decide +kernel
theorem dL_act_300 : decode cL_act 300 = .ok (.iload_n 2, 1) := by decide +kernel
theorem dL_act_301 : decode cL_act 301 = .ok (.invokevirtual 75, 3) := by decide +kernel
theorem dL_act_304 : decode cL_act 304 = .ok (.i2l, 1) := by decide +kernel
theorem dL_act_305 : decode cL_act 305 = .ok (.goto 138, 3) := by decide +kernel
theorem dL_act_308 : decode cL_act 308 = .ok (.iload_n 1, 1) := by decide +kernel
theorem dL_act_309 : decode cL_act 309 = .ok (.bipush 19, 2) := by decide +kernel
theorem dL_act_311 : decode cL_act 311 = .ok (.if_icmp .ne 13, 3) := by decide +kernel
theorem dL_act_314 : decode cL_act 314 = .ok (.aload_n 0, 1) := by decide +kernel
theorem dL_act_315 : decode cL_act 315 = .ok (.iload_n 2, 1) := by decide +kernel
theorem dL_act_316 : decode cL_act 316 = .ok (.iload_n 3, 1) := by decide +kernel
theorem dL_act_317 : decode cL_act 317 = .ok (.invokevirtual 78, 3) := by decide +kernel
theorem dL_act_320 : decode cL_act 320 = .ok (.i2l, 1) := by decide +kernel
theorem dL_act_321 : decode cL_act 321 = .ok (.goto 122, 3) := by decide +kernel
theorem dL_act_324 : decode cL_act 324 = .ok (.iload_n 1, 1) := by decide +kernel
theorem dL_act_325 : decode cL_act 325 = .ok (.bipush 20, 2) := by decide +kernel
theorem dL_act_327 : decode cL_act 327 = .ok (.if_icmp .ne 12, 3) := by decide +kernel
theorem dL_act_330 : decode cL_act 330 = .ok (.aload_n 0, 1) := by decide +kernel
theorem dL_act_331 : decode cL_act 331 = .ok (.iload_n 2, 1) := by decide +kernel
theorem dL_act_332 : decode cL_act 332 = .ok (.invokevirtual 81, 3) := by decide +kernel
theorem dL_act_335 : decode cL_act 335 = .ok (.i2l, 1) := by decide +kernel
theorem dL_act_336 : decode cL_act 336 = .ok (.goto 107, 3) := by decide +kernel
theorem dL_act_339 : decode cL_act 339 = .ok (.iload_n 1, 1) := by decide +kernel
theorem dL_act_340 : decode cL_act 340 = .ok (.bipush 21, 2) := by decide +kernel
theorem dL_act_342 : decode cL_act 342 = .ok (.if_icmp .ne 13, 3) := by decide +kernel
theorem dL_act_345 : decode cL_act 345 = .ok (.aload_n 0, 1) := by decide +kernel
theorem dL_act_346 : decode cL_act 346 = .ok (.iload_n 2, 1) := by decide +kernel
theorem dL_act_347 : decode cL_act 347 = .ok (.iload_n 3, 1) := by decide +kernel
theorem dL_act_348 : decode cL_act 348 = .ok (.invokevirtual 84, 3) := by decide +kernel
theorem dL_act_351 : decode cL_act 351 = .ok (.i2l, 1) := by decide +kernel
theorem dL_act_352 : decode cL_act 352 = .ok (.goto 91, 3) := by decide +kernel
theorem dL_act_355 : decode cL_act 355 = .ok (.iload_n 1, 1) := by decide +kernel
theorem dL_act_356 : decode cL_act 356 = .ok (.bipush 22, 2) := by decide +kernel
theorem dL_act_358 : decode cL_act 358 = .ok (.if_icmp .ne 12, 3) := by decide +kernel
theorem dL_act_361 : decode cL_act 361 = .ok (.aload_n 0, 1) := by decide +kernel
theorem dL_act_362 : decode cL_act 362 = .ok (.iload_n 2, 1) := by decide +kernel
theorem dL_act_363 : decode cL_act 363 = .ok (.invokevirtual 87, 3) := by decide +kernel
theorem dL_act_366 : decode cL_act 366 = .ok (.i2l, 1) := by decide +kernel
theorem dL_act_367 : decode cL_act 367 = .ok (.goto 76, 3) := by decide +kernel
theorem dL_act_370 : decode cL_act 370 = .ok (.iload_n 1, 1) := by decide +kernel
theorem dL_act_371 : decode cL_act 371 = .ok (.bipush 23, 2) := by decide +kernel
theorem dL_act_373 : decode cL_act 373 = .ok (.if_icmp .ne 22, 3) := by decide +kernel
theorem dL_act_376 : decode cL_act 376 = .ok (.aload_n 0, 1) := by decide +kernel
theorem dL_act_377 : decode cL_act 377 = .ok (.iload_n 2, 1) := by decide +kernel
theorem dL_act_378 : decode cL_act 378 = .ok (.iload_n 3, 1) := by decide +kernel
theorem dL_act_379 : decode cL_act 379 = .ok (.iconst 1, 1) := by decide +kernel
theorem dL_act_380 : decode cL_act 380 = .ok (.if_icmp .ne 7, 3) := by decide +kernel
theorem dL_act_383 : decode cL_act 383 = .ok (.iconst 1, 1) := by decide +kernel
theorem dL_act_384 : decode cL_act 384 = .ok (.goto 4, 3) := by decide +kernel
theorem dL_act_387 : decode cL_act 387 = .ok (.iconst 0, 1) := by decide +kernel
theorem dL_act_388 : decode cL_act 388 = .ok (.invokevirtual 90, 3) := by decide +kernel
theorem dL_act_391 : decode cL_act 391 = .ok (.i2l, 1) := by decide +kernel
theorem dL_act_392 : decode cL_act 392 = .ok (.goto 51, 3) := by decide +kernel
theorem dL_act_395 : decode cL_act 395 = .ok (.iload_n 1, 1) := by decide +kernel
theorem dL_act_396 : decode cL_act 396 = .ok (.bipush 24, 2) := by decide +kernel
theorem dL_act_398 : decode cL_act 398 = .ok (.if_icmp .ne 22, 3) := by decide +kernel
theorem dL_act_401 : decode cL_act 401 = .ok (.aload_n 0, 1) := by decide +kernel
theorem dL_act_402 : decode cL_act 402 = .ok (.iload_n 2, 1) := by decide +kernel
theorem dL_act_403 : decode cL_act 403 = .ok (.iload_n 3, 1) := by decide +kernel
theorem dL_act_404 : decode cL_act 404 = .ok (.iconst 1, 1) := by decide +kernel
theorem dL_act_405 : decode cL_act 405 = .ok (.if_icmp .ne 7, 3) := by decide +kernel
theorem dL_act_408 : decode cL_act 408 = .ok (.iconst 1, 1) := by decide +kernel
theorem dL_act_409 : decode cL_act 409 = .ok (.goto 4, 3) := by decide +kernel
theorem dL_act_412 : decode cL_act 412 = .ok (.iconst 0, 1) := by decide +kernel
theorem dL_act_413 : decode cL_act 413 = .ok (.invokevirtual 94, 3) := by decide +kernel
theorem dL_act_416 : decode cL_act 416 = .ok (.i2l, 1) := by decide +kernel
theorem dL_act_417 : decode cL_act 417 = .ok (.goto 26, 3) := by decide +kernel
theorem dL_act_420 : decode cL_act 420 = .ok (.iload_n 1, 1) := by decide +kernel
theorem dL_act_421 : decode cL_act 421 = .ok (.bipush 25, 2) := by decide +kernel
theorem dL_act_423 : decode cL_act 423 = .ok (.if_icmp .ne 13, 3) := by decide +kernel
theorem dL_act_426 : decode cL_act 426 = .ok (.aload_n 0, 1) := by decide +kernel
theorem dL_act_427 : decode cL_act 427 = .ok (.iload_n 2, 1) := by decide +kernel
theorem dL_act_428 : decode cL_act 428 = .ok (.iload_n 3, 1) := by decide +kernel
theorem dL_act_429 : decode cL_act 429 = .ok (.invokevirtual 97, 3) := by decide +kernel
theorem dL_act_432 : decode cL_act 432 = .ok (.i2l, 1) := by decide +kernel
theorem dL_act_433 : decode cL_act 433 = .ok (.goto 10, 3) := by decide +kernel
theorem dL_act_436 : decode cL_act 436 = .ok (.aload_n 0, 1) := by decide +kernel
theorem dL_act_437 : decode cL_act 437 = .ok (.iload_n 2, 1) := by decide +kernel
theorem dL_act_438 : decode cL_act 438 = .ok (.iload_n 3, 1) := by decide +kernel
theorem dL_act_439 : decode cL_act 439 = .ok (.invokevirtual 100, 3) := by decide +kernel
theorem dL_act_442 : decode cL_act 442 = .ok (.i2l, 1) := by decide +kernel
theorem dL_act_443 : decode cL_act 443 = .ok (.lreturn, 1) := by decide +kernel
theorem dL_act_444 : decode cL_act 444 = .ok (.astore 6, 2) := by decide +kernel
theorem dL_act_446 : decode cL_act 446 = .ok (.ldc2_w 105, 3) := by decide +kernel
theorem dL_act_449 : decode cL_act 449 = .ok (.lreturn, 1) := by decide +kernel
theorem dL_act_450 : decode cL_act 450 = .ok (.astore 6, 2) := by decide +kernel
theorem dL_act_452 : decode cL_act 452 = .ok (.ldc2_w 109, 3) := by decide +kernel
theorem dL_act_455 : decode cL_act 455 = .ok (.lreturn, 1) := by decide +kernel
theorem dL_act_456 : decode cL_act 456 = .ok (.astore 6, 2) := by decide +kernel
theorem dL_act_458 : decode cL_act 458 = .ok (.ldc2_w 113, 3) := by decide +kernel
theorem dL_act_461 : decode cL_act 461 = .ok (.lreturn, 1) := by decide +kernel
theorem dL_pegs_0 : decode cL_pegs 0 = .ok (.iload_n 1, 1) := by decide +kernel
theorem dL_pegs_1 : decode cL_pegs 1 = .ok (.bipush (-9), 2) := by decide +kernel
theorem dL_pegs_3 : decode cL_pegs 3 = .ok (.if_icmp .ne 12, 3) := by decide +kernel
theorem dL_pegs_6 : decode cL_pegs 6 = .ok (.aload_n 0, 1) := by decide +kernel
theorem dL_pegs_7 : decode cL_pegs 7 = .ok (.lload_n 2, 1) := by decide +kernel
theorem dL_pegs_8 : decode cL_pegs 8 = .ok (.invokevirtual 115, 3) := by decide +kernel
theorem dL_pegs_11 : decode cL_pegs 11 = .ok (.i2l, 1) := by decide +kernel
theorem dL_pegs_12 : decode cL_pegs 12 = .ok (.goto 10, 3) := by decide +kernel
theorem dL_pegs_15 : decode cL_pegs 15 = .ok (.aload_n 0, 1) := by decide +kernel
theorem dL_pegs_16 : decode cL_pegs 16 = .ok (.lload_n 2, 1) := by decide +kernel
theorem dL_pegs_17 : decode cL_pegs 17 = .ok (.iload_n 1, 1) := by decide +kernel
theorem dL_pegs_18 : decode cL_pegs 18 = .ok (.invokevirtual 119, 3) := by decide +kernel
theorem dL_pegs_21 : decode cL_pegs 21 = .ok (.i2l, 1) := by decide +kernel
theorem dL_pegs_22 : decode cL_pegs 22 = .ok (.lreturn, 1) := by decide +kernel
theorem dL_pegs_23 : decode cL_pegs 23 = .ok (.astore 4, 2) := by decide +kernel
theorem dL_pegs_25 : decode cL_pegs 25 = .ok (.ldc2_w 109, 3) := by decide +kernel
theorem dL_pegs_28 : decode cL_pegs 28 = .ok (.lreturn, 1) := by decide +kernel
theorem dL_pegs_29 : decode cL_pegs 29 = .ok (.astore 4, 2) := by decide +kernel
theorem dL_pegs_31 : decode cL_pegs 31 = .ok (.ldc2_w 113, 3) := by decide +kernel
theorem dL_pegs_34 : decode cL_pegs 34 = .ok (.lreturn, 1) := by decide +kernel
theorem dL_no_0 : decode cL_no 0 = .ok (.aload_n 0, 1) := by decide +kernel
theorem dL_no_1 : decode cL_no 1 = .ok (.iload_n 1, 1) := by decide +kernel
theorem dL_no_2 : decode cL_no 2 = .ok (.iload_n 2, 1) := by decide +kernel
theorem dL_no_3 : decode cL_no 3 = .ok (.iload_n 3, 1) := by decide +kernel
theorem dL_no_4 : decode cL_no 4 = .ok (.iload 4, 2) := by decide +kernel
theorem dL_no_6 : decode cL_no 6 = .ok (.iload 5, 2) := by decide +kernel
theorem dL_no_8 : decode cL_no 8 = .ok (.invokestatic 123, 3) := by decide +kernel
theorem dL_no_11 : decode cL_no 11 = .ok (.ldc2_w 105, 3) := by decide +kernel
theorem dL_no_14 : decode cL_no 14 = .ok (.lcmp, 1) := by decide +kernel
theorem dL_no_15 : decode cL_no 15 = .ok (.ifCond .ne 7, 3) := by decide +kernel
theorem dL_no_18 : decode cL_no 18 = .ok (.iconst 1, 1) := by decide +kernel
theorem dL_no_19 : decode cL_no 19 = .ok (.goto 4, 3) := by decide +kernel
theorem dL_no_22 : decode cL_no 22 = .ok (.iconst 0, 1) := by decide +kernel
theorem dL_no_23 : decode cL_no 23 = .ok (.ireturn, 1) := by decide +kernel
theorem dL_off_0 : decode cL_off 0 = .ok (.aload_n 0, 1) := by decide +kernel
theorem dL_off_1 : decode cL_off 1 = .ok (.iload_n 1, 1) := by decide +kernel
theorem dL_off_2 : decode cL_off 2 = .ok (.iload_n 2, 1) := by decide +kernel
theorem dL_off_3 : decode cL_off 3 = .ok (.iload_n 3, 1) := by decide +kernel
theorem dL_off_4 : decode cL_off 4 = .ok (.iload 4, 2) := by decide +kernel
theorem dL_off_6 : decode cL_off 6 = .ok (.iload 5, 2) := by decide +kernel
theorem dL_off_8 : decode cL_off 8 = .ok (.invokestatic 123, 3) := by decide +kernel
theorem dL_off_11 : decode cL_off 11 = .ok (.ldc2_w 109, 3) := by decide +kernel
theorem dL_off_14 : decode cL_off 14 = .ok (.lcmp, 1) := by decide +kernel
theorem dL_off_15 : decode cL_off 15 = .ok (.ifCond .ne 7, 3) := by decide +kernel
theorem dL_off_18 : decode cL_off 18 = .ok (.iconst 1, 1) := by decide +kernel
theorem dL_off_19 : decode cL_off 19 = .ok (.goto 4, 3) := by decide +kernel
theorem dL_off_22 : decode cL_off 22 = .ok (.iconst 0, 1) := by decide +kernel
theorem dL_off_23 : decode cL_off 23 = .ok (.ireturn, 1) := by decide +kernel
theorem dL_all_0 : decode cL_all 0 = .ok (.aload_n 0, 1) := by decide +kernel
theorem dL_all_1 : decode cL_all 1 = .ok (.invokevirtual 129, 3) := by decide +kernel
theorem dL_all_4 : decode cL_all 4 = .ok (.i2l, 1) := by decide +kernel
theorem dL_all_5 : decode cL_all 5 = .ok (.aload_n 0, 1) := by decide +kernel
theorem dL_all_6 : decode cL_all 6 = .ok (.bipush 15, 2) := by decide +kernel
theorem dL_all_8 : decode cL_all 8 = .ok (.bipush 77, 2) := by decide +kernel
theorem dL_all_10 : decode cL_all 10 = .ok (.iconst 0, 1) := by decide +kernel
theorem dL_all_11 : decode cL_all 11 = .ok (.iconst 0, 1) := by decide +kernel
theorem dL_all_12 : decode cL_all 12 = .ok (.iconst 0, 1) := by decide +kernel
theorem dL_all_13 : decode cL_all 13 = .ok (.invokestatic 123, 3) := by decide +kernel
theorem dL_all_16 : decode cL_all 16 = .ok (.ladd, 1) := by decide +kernel
theorem dL_all_17 : decode cL_all 17 = .ok (.lstore_n 2, 1) := by decide +kernel
theorem dL_all_18 : decode cL_all 18 = .ok (.iconst 0, 1) := by decide +kernel
theorem dL_all_19 : decode cL_all 19 = .ok (.istore 4, 2) := by decide +kernel
theorem dL_all_21 : decode cL_all 21 = .ok (.iload 4, 2) := by decide +kernel
theorem dL_all_23 : decode cL_all 23 = .ok (.bipush 36, 2) := by decide +kernel
theorem dL_all_25 : decode cL_all 25 = .ok (.if_icmp .ge 23, 3) := by decide +kernel
theorem dL_all_28 : decode cL_all 28 = .ok (.ldc2_w 133, 3) := by decide +kernel
theorem dL_all_31 : decode cL_all 31 = .ok (.lload_n 2, 1) := by decide +kernel
theorem dL_all_32 : decode cL_all 32 = .ok (.lmul, 1) := by decide +kernel
theorem dL_all_33 : decode cL_all 33 = .ok (.aload_n 0, 1) := by decide +kernel
theorem dL_all_34 : decode cL_all 34 = .ok (.iload 4, 2) := by decide +kernel
theorem dL_all_36 : decode cL_all 36 = .ok (.invokevirtual 54, 3) := by decide +kernel
theorem dL_all_39 : decode cL_all 39 = .ok (.i2l, 1) := by decide +kernel
theorem dL_all_40 : decode cL_all 40 = .ok (.ladd, 1) := by decide +kernel
theorem dL_all_41 : decode cL_all 41 = .ok (.lstore_n 2, 1) := by decide +kernel
theorem dL_all_42 : decode cL_all 42 = .ok (.iinc 4 1, 3) := by decide +kernel
theorem dL_all_45 : decode cL_all 45 = .ok (.goto (-24), 3) := by decide +kernel
theorem dL_all_48 : decode cL_all 48 = .ok (.iconst 0, 1) := by decide +kernel
theorem dL_all_49 : decode cL_all 49 = .ok (.istore 4, 2) := by decide +kernel
theorem dL_all_51 : decode cL_all 51 = .ok (.iload 4, 2) := by decide +kernel
theorem dL_all_53 : decode cL_all 53 = .ok (.aload_n 1, 1) := by decide +kernel
theorem dL_all_54 : decode cL_all 54 = .ok (.iconst 1, 1) := by decide +kernel
theorem dL_all_55 : decode cL_all 55 = .ok (.iaload, 1) := by decide +kernel
theorem dL_all_56 : decode cL_all 56 = .ok (.if_icmp .ge 34, 3) := by decide +kernel
theorem dL_all_59 : decode cL_all 59 = .ok (.ldc2_w 133, 3) := by decide +kernel
theorem dL_all_62 : decode cL_all 62 = .ok (.lload_n 2, 1) := by decide +kernel
theorem dL_all_63 : decode cL_all 63 = .ok (.lmul, 1) := by decide +kernel
theorem dL_all_64 : decode cL_all 64 = .ok (.aload_n 0, 1) := by decide +kernel
theorem dL_all_65 : decode cL_all 65 = .ok (.iload 4, 2) := by decide +kernel
theorem dL_all_67 : decode cL_all 67 = .ok (.invokevirtual 23, 3) := by decide +kernel
theorem dL_all_70 : decode cL_all 70 = .ok (.ladd, 1) := by decide +kernel
theorem dL_all_71 : decode cL_all 71 = .ok (.ldc2_w 135, 3) := by decide +kernel
theorem dL_all_74 : decode cL_all 74 = .ok (.aload_n 0, 1) := by decide +kernel
theorem dL_all_75 : decode cL_all 75 = .ok (.iload 4, 2) := by decide +kernel
theorem dL_all_77 : decode cL_all 77 = .ok (.iconst 0, 1) := by decide +kernel
theorem dL_all_78 : decode cL_all 78 = .ok (.invokevirtual 37, 3) := by decide +kernel
theorem dL_all_81 : decode cL_all 81 = .ok (.lmul, 1) := by decide +kernel
theorem dL_all_82 : decode cL_all 82 = .ok (.ladd, 1) := by decide +kernel
theorem dL_all_83 : decode cL_all 83 = .ok (.lstore_n 2, 1) := by decide +kernel
theorem dL_all_84 : decode cL_all 84 = .ok (.iinc 4 1, 3) := by decide +kernel
theorem dL_all_87 : decode cL_all 87 = .ok (.goto (-36), 3) := by decide +kernel
theorem dL_all_90 : decode cL_all 90 = .ok (.iconst 0, 1) := by decide +kernel
theorem dL_all_91 : decode cL_all 91 = .ok (.istore 4, 2) := by decide +kernel
theorem dL_all_93 : decode cL_all 93 = .ok (.iload 4, 2) := by decide +kernel
theorem dL_all_95 : decode cL_all 95 = .ok (.aload_n 1, 1) := by decide +kernel
theorem dL_all_96 : decode cL_all 96 = .ok (.iconst 0, 1) := by decide +kernel
theorem dL_all_97 : decode cL_all 97 = .ok (.iaload, 1) := by decide +kernel
theorem dL_all_98 : decode cL_all 98 = .ok (.if_icmp .ge 23, 3) := by decide +kernel
theorem dL_all_101 : decode cL_all 101 = .ok (.ldc2_w 133, 3) := by decide +kernel
theorem dL_all_104 : decode cL_all 104 = .ok (.lload_n 2, 1) := by decide +kernel
theorem dL_all_105 : decode cL_all 105 = .ok (.lmul, 1) := by decide +kernel
theorem dL_all_106 : decode cL_all 106 = .ok (.aload_n 0, 1) := by decide +kernel
theorem dL_all_107 : decode cL_all 107 = .ok (.iload 4, 2) := by decide +kernel
theorem dL_all_109 : decode cL_all 109 = .ok (.invokevirtual 27, 3) := by decide +kernel
theorem dL_all_112 : decode cL_all 112 = .ok (.i2l, 1) := by decide +kernel
theorem dL_all_113 : decode cL_all 113 = .ok (.ladd, 1) := by decide +kernel
theorem dL_all_114 : decode cL_all 114 = .ok (.lstore_n 2, 1) := by decide +kernel
theorem dL_all_115 : decode cL_all 115 = .ok (.iinc 4 1, 3) := by decide +kernel
theorem dL_all_118 : decode cL_all 118 = .ok (.goto (-25), 3) := by decide +kernel
theorem dL_all_121 : decode cL_all 121 = .ok (.iconst 0, 1) := by decide +kernel
theorem dL_all_122 : decode cL_all 122 = .ok (.istore 4, 2) := by decide +kernel
theorem dL_all_124 : decode cL_all 124 = .ok (.iload 4, 2) := by decide +kernel
theorem dL_all_126 : decode cL_all 126 = .ok (.aload_n 1, 1) := by decide +kernel
theorem dL_all_127 : decode cL_all 127 = .ok (.iconst 3, 1) := by decide +kernel
theorem dL_all_128 : decode cL_all 128 = .ok (.iaload, 1) := by decide +kernel
theorem dL_all_129 : decode cL_all 129 = .ok (.if_icmp .ge 22, 3) := by decide +kernel
theorem dL_all_132 : decode cL_all 132 = .ok (.ldc2_w 133, 3) := by decide +kernel
theorem dL_all_135 : decode cL_all 135 = .ok (.lload_n 2, 1) := by decide +kernel
theorem dL_all_136 : decode cL_all 136 = .ok (.lmul, 1) := by decide +kernel
theorem dL_all_137 : decode cL_all 137 = .ok (.aload_n 0, 1) := by decide +kernel
theorem dL_all_138 : decode cL_all 138 = .ok (.iload 4, 2) := by decide +kernel
theorem dL_all_140 : decode cL_all 140 = .ok (.invokevirtual 57, 3) := by decide +kernel
theorem dL_all_143 : decode cL_all 143 = .ok (.ladd, 1) := by decide +kernel
theorem dL_all_144 : decode cL_all 144 = .ok (.lstore_n 2, 1) := by decide +kernel
theorem dL_all_145 : decode cL_all 145 = .ok (.iinc 4 1, 3) := by decide +kernel
theorem dL_all_148 : decode cL_all 148 = .ok (.goto (-24), 3) := by decide +kernel
theorem dL_all_151 : decode cL_all 151 = .ok (.iconst 0, 1) := by decide +kernel
theorem dL_all_152 : decode cL_all 152 = .ok (.istore 4, 2) := by decide +kernel
theorem dL_all_154 : decode cL_all 154 = .ok (.iload 4, 2) := by decide +kernel
theorem dL_all_156 : decode cL_all 156 = .ok (.bipush 6, 2) := by decide +kernel
theorem dL_all_158 : decode cL_all 158 = .ok (.aload_n 1, 1) := by decide +kernel
theorem dL_all_159 : decode cL_all 159 = .ok (.iconst 4, 1) := by decide +kernel
theorem dL_all_160 : decode cL_all 160 = .ok (.iaload, 1) := by decide +kernel
theorem dL_all_161 : decode cL_all 161 = .ok (.imul, 1) := by decide +kernel
theorem dL_all_162 : decode cL_all 162 = .ok (.if_icmp .ge 46, 3) := by decide +kernel
theorem dL_all_165 : decode cL_all 165 = .ok (.ldc2_w 133, 3) := by decide +kernel
theorem dL_all_168 : decode cL_all 168 = .ok (.lload_n 2, 1) := by decide +kernel
theorem dL_all_169 : decode cL_all 169 = .ok (.lmul, 1) := by decide +kernel
theorem dL_all_170 : decode cL_all 170 = .ok (.aload_n 0, 1) := by decide +kernel
theorem dL_all_171 : decode cL_all 171 = .ok (.iload 4, 2) := by decide +kernel
theorem dL_all_173 : decode cL_all 173 = .ok (.bipush 6, 2) := by decide +kernel
theorem dL_all_175 : decode cL_all 175 = .ok (.idiv, 1) := by decide +kernel
theorem dL_all_176 : decode cL_all 176 = .ok (.iload 4, 2) := by decide +kernel
theorem dL_all_178 : decode cL_all 178 = .ok (.bipush 6, 2) := by decide +kernel
theorem dL_all_180 : decode cL_all 180 = .ok (.irem, 1) := by decide +kernel
theorem dL_all_181 : decode cL_all 181 = .ok (.invokevirtual 97, 3) := by decide +kernel
theorem dL_all_184 : decode cL_all 184 = .ok (.i2l, 1) := by decide +kernel
theorem dL_all_185 : decode cL_all 185 = .ok (.ladd, 1) := by decide +kernel
theorem dL_all_186 : decode cL_all 186 = .ok (.ldc2_w 135, 3) := by decide +kernel
theorem dL_all_189 : decode cL_all 189 = .ok (.aload_n 0, 1) := by decide +kernel
theorem dL_all_190 : decode cL_all 190 = .ok (.iload 4, 2) := by decide +kernel
theorem dL_all_192 : decode cL_all 192 = .ok (.bipush 6, 2) := by decide +kernel
theorem dL_all_194 : decode cL_all 194 = .ok (.idiv, 1) := by decide +kernel
theorem dL_all_195 : decode cL_all 195 = .ok (.invokevirtual 81, 3) := by decide +kernel
theorem dL_all_198 : decode cL_all 198 = .ok (.i2l, 1) := by decide +kernel
theorem dL_all_199 : decode cL_all 199 = .ok (.lmul, 1) := by decide +kernel
theorem dL_all_200 : decode cL_all 200 = .ok (.ladd, 1) := by decide +kernel
theorem dL_all_201 : decode cL_all 201 = .ok (.lstore_n 2, 1) := by decide +kernel
theorem dL_all_202 : decode cL_all 202 = .ok (.iinc 4 1, 3) := by decide +kernel
theorem dL_all_205 : decode cL_all 205 = .ok (.goto (-51), 3) := by decide +kernel
theorem dL_all_208 : decode cL_all 208 = .ok (.lload_n 2, 1) := by decide +kernel
theorem dL_all_209 : decode cL_all 209 = .ok (.lreturn, 1) := by decide +kernel
