theorem dL_areSound_0 : decode cL_areSound 0 = .ok (.iconst 1, 1) := by decide +kernel
theorem dL_areSound_1 : decode cL_areSound 1 = .ok (.istore 5, 2) := by decide +kernel
theorem dL_areSound_3 : decode cL_areSound 3 = .ok (.iconst 0, 1) := by decide +kernel
theorem dL_areSound_4 : decode cL_areSound 4 = .ok (.istore 6, 2) := by decide +kernel
theorem dL_areSound_6 : decode cL_areSound 6 = .ok (.iload 6, 2) := by decide +kernel
theorem dL_areSound_8 : decode cL_areSound 8 = .ok (.aload_n 1, 1) := by decide +kernel
theorem dL_areSound_9 : decode cL_areSound 9 = .ok (.iconst 0, 1) := by decide +kernel
theorem dL_areSound_10 : decode cL_areSound 10 = .ok (.iaload, 1) := by decide +kernel
theorem dL_areSound_11 : decode cL_areSound 11 = .ok (.if_icmp .ge 132, 3) := by decide +kernel
theorem dL_areSound_14 : decode cL_areSound 14 = .ok (.iload 5, 2) := by decide +kernel
theorem dL_areSound_16 : decode cL_areSound 16 = .ok (.ifCond .eq 127, 3) := by decide +kernel
theorem dL_areSound_19 : decode cL_areSound 19 = .ok (.iconst 0, 1) := by decide +kernel
theorem dL_areSound_20 : decode cL_areSound 20 = .ok (.istore 7, 2) := by decide +kernel
theorem dL_areSound_22 : decode cL_areSound 22 = .ok (.iconst 0, 1) := by decide +kernel
theorem dL_areSound_23 : decode cL_areSound 23 = .ok (.istore 8, 2) := by decide +kernel
theorem dL_areSound_25 : decode cL_areSound 25 = .ok (.iconst 0, 1) := by decide +kernel
theorem dL_areSound_26 : decode cL_areSound 26 = .ok (.istore 9, 2) := by decide +kernel
theorem dL_areSound_28 : decode cL_areSound 28 = .ok (.iload 9, 2) := by decide +kernel
theorem dL_areSound_30 : decode cL_areSound 30 = .ok (.aload_n 1, 1) := by decide +kernel
theorem dL_areSound_31 : decode cL_areSound 31 = .ok (.iconst 1, 1) := by decide +kernel
theorem dL_areSound_32 : decode cL_areSound 32 = .ok (.iaload, 1) := by decide +kernel
theorem dL_areSound_33 : decode cL_areSound 33 = .ok (.if_icmp .ge 67, 3) := by decide +kernel
theorem dL_areSound_36 : decode cL_areSound 36 = .ok (.iload 7, 2) := by decide +kernel
theorem dL_areSound_38 : decode cL_areSound 38 = .ok (.aload_n 2, 1) := by decide +kernel
theorem dL_areSound_39 : decode cL_areSound 39 = .ok (.iconst 3, 1) := by decide +kernel
theorem dL_areSound_40 : decode cL_areSound 40 = .ok (.iload 9, 2) := by decide +kernel
theorem dL_areSound_42 : decode cL_areSound 42 = .ok (.imul, 1) := by decide +kernel
theorem dL_areSound_43 : decode cL_areSound 43 = .ok (.iaload, 1) := by decide +kernel
theorem dL_areSound_44 : decode cL_areSound 44 = .ok (.iload 6, 2) := by decide +kernel
theorem dL_areSound_46 : decode cL_areSound 46 = .ok (.if_icmp .ne 23, 3) := by decide +kernel
theorem dL_areSound_49 : decode cL_areSound 49 = .ok (.aload_n 2, 1) := by decide +kernel
theorem dL_areSound_50 : decode cL_areSound 50 = .ok (.iconst 3, 1) := by decide +kernel
theorem dL_areSound_51 : decode cL_areSound 51 = .ok (.iload 9, 2) := by decide +kernel
theorem dL_areSound_53 : decode cL_areSound 53 = .ok (.imul, 1) := by decide +kernel
theorem dL_areSound_54 : decode cL_areSound 54 = .ok (.iconst 1, 1) := by decide +kernel
theorem dL_areSound_55 : decode cL_areSound 55 = .ok (.iadd, 1) := by decide +kernel
theorem dL_areSound_56 : decode cL_areSound 56 = .ok (.iaload, 1) := by decide +kernel
theorem dL_areSound_57 : decode cL_areSound 57 = .ok (.aload_n 2, 1) := by decide +kernel
theorem dL_areSound_58 : decode cL_areSound 58 = .ok (.iconst 3, 1) := by decide +kernel
theorem dL_areSound_59 : decode cL_areSound 59 = .ok (.iload 9, 2) := by decide +kernel
theorem dL_areSound_61 : decode cL_areSound 61 = .ok (.imul, 1) := by decide +kernel
theorem dL_areSound_62 : decode cL_areSound 62 = .ok (.iconst 2, 1) := by decide +kernel
theorem dL_areSound_63 : decode cL_areSound 63 = .ok (.iadd, 1) := by decide +kernel
theorem dL_areSound_64 : decode cL_areSound 64 = .ok (.iaload, 1) := by decide +kernel
theorem dL_areSound_65 : decode cL_areSound 65 = .ok (.iadd, 1) := by decide +kernel
theorem dL_areSound_66 : decode cL_areSound 66 = .ok (.goto 4, 3) := by decide +kernel
theorem dL_areSound_69 : decode cL_areSound 69 = .ok (.iconst 0, 1) := by decide +kernel
theorem dL_areSound_70 : decode cL_areSound 70 = .ok (.iadd, 1) := by decide +kernel
theorem dL_areSound_71 : decode cL_areSound 71 = .ok (.istore 7, 2) := by decide +kernel
theorem dL_areSound_73 : decode cL_areSound 73 = .ok (.iload 8, 2) := by decide +kernel
theorem dL_areSound_75 : decode cL_areSound 75 = .ok (.aload_n 2, 1) := by decide +kernel
theorem dL_areSound_76 : decode cL_areSound 76 = .ok (.iconst 3, 1) := by decide +kernel
theorem dL_areSound_77 : decode cL_areSound 77 = .ok (.iload 9, 2) := by decide +kernel
theorem dL_areSound_79 : decode cL_areSound 79 = .ok (.imul, 1) := by decide +kernel
theorem dL_areSound_80 : decode cL_areSound 80 = .ok (.iaload, 1) := by decide +kernel
theorem dL_areSound_81 : decode cL_areSound 81 = .ok (.iload 6, 2) := by decide +kernel
theorem dL_areSound_83 : decode cL_areSound 83 = .ok (.if_icmp .ne 7, 3) := by decide +kernel
theorem dL_areSound_86 : decode cL_areSound 86 = .ok (.iconst 1, 1) := by decide +kernel
theorem dL_areSound_87 : decode cL_areSound 87 = .ok (.goto 4, 3) := by decide +kernel
theorem dL_areSound_90 : decode cL_areSound 90 = .ok (.iconst 0, 1) := by decide +kernel
theorem dL_areSound_91 : decode cL_areSound 91 = .ok (.iadd, 1) := by decide +kernel
theorem dL_areSound_92 : decode cL_areSound 92 = .ok (.istore 8, 2) := by decide +kernel
theorem dL_areSound_94 : decode cL_areSound 94 = .ok (.iinc 9 1, 3) := by decide +kernel
theorem dL_areSound_97 : decode cL_areSound 97 = .ok (.goto (-69), 3) := by decide +kernel
theorem dL_areSound_100 : decode cL_areSound 100 = .ok (.aload_n 0, 1) := by decide +kernel
theorem dL_areSound_101 : decode cL_areSound 101 = .ok (.iload 6, 2) := by decide +kernel
theorem dL_areSound_103 : decode cL_areSound 103 = .ok (.invokevirtual 27, 3) := by decide +kernel
theorem dL_areSound_106 : decode cL_areSound 106 = .ok (.istore 9, 2) := by decide +kernel
theorem dL_areSound_108 : decode cL_areSound 108 = .ok (.iload 9, 2) := by decide +kernel
theorem dL_areSound_110 : decode cL_areSound 110 = .ok (.iload 8, 2) := by decide +kernel
theorem dL_areSound_112 : decode cL_areSound 112 = .ok (.ifCond .le 7, 3) := by decide +kernel
theorem dL_areSound_115 : decode cL_areSound 115 = .ok (.iconst 1, 1) := by decide +kernel
theorem dL_areSound_116 : decode cL_areSound 116 = .ok (.goto 4, 3) := by decide +kernel
theorem dL_areSound_119 : decode cL_areSound 119 = .ok (.iconst 0, 1) := by decide +kernel
theorem dL_areSound_120 : decode cL_areSound 120 = .ok (.if_icmp .lt 14, 3) := by decide +kernel
theorem dL_areSound_123 : decode cL_areSound 123 = .ok (.iload 9, 2) := by decide +kernel
theorem dL_areSound_125 : decode cL_areSound 125 = .ok (.iload 7, 2) := by decide +kernel
theorem dL_areSound_127 : decode cL_areSound 127 = .ok (.if_icmp .gt 7, 3) := by decide +kernel
theorem dL_areSound_130 : decode cL_areSound 130 = .ok (.iconst 1, 1) := by decide +kernel
theorem dL_areSound_131 : decode cL_areSound 131 = .ok (.goto 4, 3) := by decide +kernel
theorem dL_areSound_134 : decode cL_areSound 134 = .ok (.iconst 0, 1) := by decide +kernel
theorem dL_areSound_135 : decode cL_areSound 135 = .ok (.istore 5, 2) := by decide +kernel
theorem dL_areSound_137 : decode cL_areSound 137 = .ok (.iinc 6 1, 3) := by decide +kernel
theorem dL_areSound_140 : decode cL_areSound 140 = .ok (.goto (-134), 3) := by decide +kernel
theorem dL_areSound_143 : decode cL_areSound 143 = .ok (.iload 5, 2) := by decide +kernel
theorem dL_areSound_145 : decode cL_areSound 145 = .ok (.ifCond .eq 172, 3) := by decide +kernel
theorem dL_areSound_148 : decode cL_areSound 148 = .ok (.aload_n 1, 1) := by decide +kernel
theorem dL_areSound_149 : decode cL_areSound 149 = .ok (.iconst 1, 1) := by decide +kernel
theorem dL_areSound_150 : decode cL_areSound 150 = .ok (.iaload, 1) := by decide +kernel
theorem dL_areSound_151 : decode cL_areSound 151 = .ok (.ifCond .le 166, 3) := by decide +kernel
theorem dL_areSound_154 : decode cL_areSound 154 = .ok (.iload 4, 2) := by decide +kernel
theorem dL_areSound_156 : decode cL_areSound 156 = .ok (.aload_n 1, 1) := by decide +kernel
theorem dL_areSound_157 : decode cL_areSound 157 = .ok (.iconst 1, 1) := by decide +kernel
theorem dL_areSound_158 : decode cL_areSound 158 = .ok (.iaload, 1) := by decide +kernel
theorem dL_areSound_159 : decode cL_areSound 159 = .ok (.irem, 1) := by decide +kernel
theorem dL_areSound_160 : decode cL_areSound 160 = .ok (.istore 6, 2) := by decide +kernel
theorem dL_areSound_162 : decode cL_areSound 162 = .ok (.iload 4, 2) := by decide +kernel
theorem dL_areSound_164 : decode cL_areSound 164 = .ok (.bipush 12, 2) := by decide +kernel
theorem dL_areSound_166 : decode cL_areSound 166 = .ok (.idiv, 1) := by decide +kernel
theorem dL_areSound_167 : decode cL_areSound 167 = .ok (.aload_n 1, 1) := by decide +kernel
theorem dL_areSound_168 : decode cL_areSound 168 = .ok (.iconst 1, 1) := by decide +kernel
theorem dL_areSound_169 : decode cL_areSound 169 = .ok (.iaload, 1) := by decide +kernel
theorem dL_areSound_170 : decode cL_areSound 170 = .ok (.irem, 1) := by decide +kernel
theorem dL_areSound_171 : decode cL_areSound 171 = .ok (.istore 7, 2) := by decide +kernel
theorem dL_areSound_173 : decode cL_areSound 173 = .ok (.iload 4, 2) := by decide +kernel
theorem dL_areSound_175 : decode cL_areSound 175 = .ok (.sipush 144, 3) := by decide +kernel
theorem dL_areSound_178 : decode cL_areSound 178 = .ok (.idiv, 1) := by decide +kernel
theorem dL_areSound_179 : decode cL_areSound 179 = .ok (.aload_n 1, 1) := by decide +kernel
theorem dL_areSound_180 : decode cL_areSound 180 = .ok (.iconst 1, 1) := by decide +kernel
theorem dL_areSound_181 : decode cL_areSound 181 = .ok (.iaload, 1) := by decide +kernel
theorem dL_areSound_182 : decode cL_areSound 182 = .ok (.irem, 1) := by decide +kernel
theorem dL_areSound_183 : decode cL_areSound 183 = .ok (.istore 8, 2) := by decide +kernel
theorem dL_areSound_185 : decode cL_areSound 185 = .ok (.aload_n 0, 1) := by decide +kernel
theorem dL_areSound_186 : decode cL_areSound 186 = .ok (.iload 6, 2) := by decide +kernel
theorem dL_areSound_188 : decode cL_areSound 188 = .ok (.iload 7, 2) := by decide +kernel
theorem dL_areSound_190 : decode cL_areSound 190 = .ok (.invokevirtual 37, 3) := by decide +kernel
theorem dL_areSound_193 : decode cL_areSound 193 = .ok (.lstore 9, 2) := by decide +kernel
theorem dL_areSound_195 : decode cL_areSound 195 = .ok (.aload_n 0, 1) := by decide +kernel
theorem dL_areSound_196 : decode cL_areSound 196 = .ok (.iload 7, 2) := by decide +kernel
theorem dL_areSound_198 : decode cL_areSound 198 = .ok (.iload 8, 2) := by decide +kernel
theorem dL_areSound_200 : decode cL_areSound 200 = .ok (.invokevirtual 37, 3) := by decide +kernel
theorem dL_areSound_203 : decode cL_areSound 203 = .ok (.lstore 11, 2) := by decide +kernel
theorem dL_areSound_205 : decode cL_areSound 205 = .ok (.aload_n 0, 1) := by decide +kernel
theorem dL_areSound_206 : decode cL_areSound 206 = .ok (.iload 6, 2) := by decide +kernel
theorem dL_areSound_208 : decode cL_areSound 208 = .ok (.iload 8, 2) := by decide +kernel
theorem dL_areSound_210 : decode cL_areSound 210 = .ok (.invokevirtual 37, 3) := by decide +kernel
theorem dL_areSound_213 : decode cL_areSound 213 = .ok (.lstore 13, 2) := by decide +kernel
theorem dL_areSound_215 : decode cL_areSound 215 = .ok (.lload 9, 2) := by decide +kernel
theorem dL_areSound_217 : decode cL_areSound 217 = .ok (.aload_n 0, 1) := by decide +kernel
theorem dL_areSound_218 : decode cL_areSound 218 = .ok (.iload 7, 2) := by decide +kernel
theorem dL_areSound_220 : decode cL_areSound 220 = .ok (.iload 6, 2) := by decide +kernel
theorem dL_areSound_222 : decode cL_areSound 222 = .ok (.invokevirtual 41, 3) := by decide +kernel
theorem dL_areSound_225 : decode cL_areSound 225 = .ok (.lcmp, 1) := by decide +kernel
theorem dL_areSound_226 : decode cL_areSound 226 = .ok (.ifCond .ne 88, 3) := by decide +kernel
theorem dL_areSound_229 : decode cL_areSound 229 = .ok (.lload 9, 2) := by decide +kernel
theorem dL_areSound_231 : decode cL_areSound 231 = .ok (.aload_n 0, 1) := by decide +kernel
theorem dL_areSound_232 : decode cL_areSound 232 = .ok (.iload 6, 2) := by decide +kernel
theorem dL_areSound_234 : decode cL_areSound 234 = .ok (.invokevirtual 23, 3) := by decide +kernel
theorem dL_areSound_237 : decode cL_areSound 237 = .ok (.lcmp, 1) := by decide +kernel
theorem dL_areSound_238 : decode cL_areSound 238 = .ok (.ifCond .gt 76, 3) := by decide +kernel
theorem dL_areSound_241 : decode cL_areSound 241 = .ok (.lload 9, 2) := by decide +kernel
theorem dL_areSound_243 : decode cL_areSound 243 = .ok (.aload_n 0, 1) := by decide +kernel
theorem dL_areSound_244 : decode cL_areSound 244 = .ok (.iload 7, 2) := by decide +kernel
theorem dL_areSound_246 : decode cL_areSound 246 = .ok (.invokevirtual 23, 3) := by decide +kernel
theorem dL_areSound_249 : decode cL_areSound 249 = .ok (.lcmp, 1) := by decide +kernel
theorem dL_areSound_250 : decode cL_areSound 250 = .ok (.ifCond .gt 64, 3) := by decide +kernel
theorem dL_areSound_253 : decode cL_areSound 253 = .ok (.lload 13, 2) := by decide +kernel
theorem dL_areSound_255 : decode cL_areSound 255 = .ok (.lload 9, 2) := by decide +kernel
theorem dL_areSound_257 : decode cL_areSound 257 = .ok (.lload 11, 2) := by decide +kernel
theorem dL_areSound_259 : decode cL_areSound 259 = .ok (.lcmp, 1) := by decide +kernel
theorem dL_areSound_260 : decode cL_areSound 260 = .ok (.ifCond .ge 8, 3) := by decide +kernel
theorem dL_areSound_263 : decode cL_areSound 263 = .ok (.lload 9, 2) := by decide +kernel
theorem dL_areSound_265 : decode cL_areSound 265 = .ok (.goto 5, 3) := by decide +kernel
theorem dL_areSound_268 : decode cL_areSound 268 = .ok (.lload 11, 2) := by decide +kernel
theorem dL_areSound_270 : decode cL_areSound 270 = .ok (.lcmp, 1) := by decide +kernel
theorem dL_areSound_271 : decode cL_areSound 271 = .ok (.ifCond .lt 43, 3) := by decide +kernel
theorem dL_areSound_274 : decode cL_areSound 274 = .ok (.aload_n 0, 1) := by decide +kernel
theorem dL_areSound_275 : decode cL_areSound 275 = .ok (.iload 6, 2) := by decide +kernel
theorem dL_areSound_277 : decode cL_areSound 277 = .ok (.iload 6, 2) := by decide +kernel
theorem dL_areSound_279 : decode cL_areSound 279 = .ok (.invokevirtual 37, 3) := by decide +kernel
theorem dL_areSound_282 : decode cL_areSound 282 = .ok (.aload_n 0, 1) := by decide +kernel
theorem dL_areSound_283 : decode cL_areSound 283 = .ok (.iload 6, 2) := by decide +kernel
theorem dL_areSound_285 : decode cL_areSound 285 = .ok (.invokevirtual 23, 3) := by decide +kernel
theorem dL_areSound_288 : decode cL_areSound 288 = .ok (.lcmp, 1) := by decide +kernel
theorem dL_areSound_289 : decode cL_areSound 289 = .ok (.ifCond .ne 25, 3) := by decide +kernel
theorem dL_areSound_292 : decode cL_areSound 292 = .ok (.lload 9, 2) := by decide +kernel
theorem dL_areSound_294 : decode cL_areSound 294 = .ok (.lconst 0, 1) := by decide +kernel
theorem dL_areSound_295 : decode cL_areSound 295 = .ok (.lcmp, 1) := by decide +kernel
theorem dL_areSound_296 : decode cL_areSound 296 = .ok (.ifCond .lt 18, 3) := by decide +kernel
theorem dL_areSound_299 : decode cL_areSound 299 = .ok (.aload_n 0, 1) := by decide +kernel
theorem dL_areSound_300 : decode cL_areSound 300 = .ok (.iload 6, 2) := by decide +kernel
theorem dL_areSound_302 : decode cL_areSound 302 = .ok (.invokevirtual 23, 3) := by decide +kernel
theorem dL_areSound_305 : decode cL_areSound 305 = .ok (.lconst 0, 1) := by decide +kernel
theorem dL_areSound_306 : decode cL_areSound 306 = .ok (.lcmp, 1) := by decide +kernel
theorem dL_areSound_307 : decode cL_areSound 307 = .ok (.ifCond .lt 7, 3) := by decide +kernel
