theorem dL_isTrimmed_0 : decode cL_isTrimmed 0 = .ok (.iload_n 2, 1) := by decide +kernel
theorem dL_isTrimmed_1 : decode cL_isTrimmed 1 = .ok (.bipush 101, 2) := by decide +kernel
theorem dL_isTrimmed_3 : decode cL_isTrimmed 3 = .ok (.irem, 1) := by decide +kernel
theorem dL_isTrimmed_4 : decode cL_isTrimmed 4 = .ok (.istore_n 3, 1) := by decide +kernel
theorem dL_isTrimmed_5 : decode cL_isTrimmed 5 = .ok (.iload_n 2, 1) := by decide +kernel
theorem dL_isTrimmed_6 : decode cL_isTrimmed 6 = .ok (.bipush 101, 2) := by decide +kernel
theorem dL_isTrimmed_8 : decode cL_isTrimmed 8 = .ok (.idiv, 1) := by decide +kernel
theorem dL_isTrimmed_9 : decode cL_isTrimmed 9 = .ok (.iconst 4, 1) := by decide +kernel
theorem dL_isTrimmed_10 : decode cL_isTrimmed 10 = .ok (.irem, 1) := by decide +kernel
theorem dL_isTrimmed_11 : decode cL_isTrimmed 11 = .ok (.istore 4, 2) := by decide +kernel
theorem dL_isTrimmed_13 : decode cL_isTrimmed 13 = .ok (.iload_n 2, 1) := by decide +kernel
theorem dL_isTrimmed_14 : decode cL_isTrimmed 14 = .ok (.sipush 404, 3) := by decide +kernel
theorem dL_isTrimmed_17 : decode cL_isTrimmed 17 = .ok (.idiv, 1) := by decide +kernel
theorem dL_isTrimmed_18 : decode cL_isTrimmed 18 = .ok (.bipush 101, 2) := by decide +kernel
theorem dL_isTrimmed_20 : decode cL_isTrimmed 20 = .ok (.irem, 1) := by decide +kernel
theorem dL_isTrimmed_21 : decode cL_isTrimmed 21 = .ok (.istore 5, 2) := by decide +kernel
theorem dL_isTrimmed_23 : decode cL_isTrimmed 23 = .ok (.aload_n 1, 1) := by decide +kernel
theorem dL_isTrimmed_24 : decode cL_isTrimmed 24 = .ok (.bipush 6, 2) := by decide +kernel
theorem dL_isTrimmed_26 : decode cL_isTrimmed 26 = .ok (.iload_n 3, 1) := by decide +kernel
theorem dL_isTrimmed_27 : decode cL_isTrimmed 27 = .ok (.iastore, 1) := by decide +kernel
theorem dL_isTrimmed_28 : decode cL_isTrimmed 28 = .ok (.aload_n 1, 1) := by decide +kernel
theorem dL_isTrimmed_29 : decode cL_isTrimmed 29 = .ok (.bipush 7, 2) := by decide +kernel
theorem dL_isTrimmed_31 : decode cL_isTrimmed 31 = .ok (.iload 4, 2) := by decide +kernel
theorem dL_isTrimmed_33 : decode cL_isTrimmed 33 = .ok (.iastore, 1) := by decide +kernel
theorem dL_isTrimmed_34 : decode cL_isTrimmed 34 = .ok (.iload_n 2, 1) := by decide +kernel
theorem dL_isTrimmed_35 : decode cL_isTrimmed 35 = .ok (.bipush 7, 2) := by decide +kernel
theorem dL_isTrimmed_37 : decode cL_isTrimmed 37 = .ok (.idiv, 1) := by decide +kernel
theorem dL_isTrimmed_38 : decode cL_isTrimmed 38 = .ok (.bipush 101, 2) := by decide +kernel
theorem dL_isTrimmed_40 : decode cL_isTrimmed 40 = .ok (.irem, 1) := by decide +kernel
theorem dL_isTrimmed_41 : decode cL_isTrimmed 41 = .ok (.istore 6, 2) := by decide +kernel
theorem dL_isTrimmed_43 : decode cL_isTrimmed 43 = .ok (.iload_n 2, 1) := by decide +kernel
theorem dL_isTrimmed_44 : decode cL_isTrimmed 44 = .ok (.bipush 11, 2) := by decide +kernel
theorem dL_isTrimmed_46 : decode cL_isTrimmed 46 = .ok (.idiv, 1) := by decide +kernel
theorem dL_isTrimmed_47 : decode cL_isTrimmed 47 = .ok (.sipush 9000, 3) := by decide +kernel
theorem dL_isTrimmed_50 : decode cL_isTrimmed 50 = .ok (.irem, 1) := by decide +kernel
theorem dL_isTrimmed_51 : decode cL_isTrimmed 51 = .ok (.istore 7, 2) := by decide +kernel
theorem dL_isTrimmed_53 : decode cL_isTrimmed 53 = .ok (.aload_n 0, 1) := by decide +kernel
theorem dL_isTrimmed_54 : decode cL_isTrimmed 54 = .ok (.bipush 14, 2) := by decide +kernel
theorem dL_isTrimmed_56 : decode cL_isTrimmed 56 = .ok (.iload 5, 2) := by decide +kernel
theorem dL_isTrimmed_58 : decode cL_isTrimmed 58 = .ok (.iload_n 3, 1) := by decide +kernel
theorem dL_isTrimmed_59 : decode cL_isTrimmed 59 = .ok (.iload 4, 2) := by decide +kernel
theorem dL_isTrimmed_61 : decode cL_isTrimmed 61 = .ok (.iconst 0, 1) := by decide +kernel
theorem dL_isTrimmed_62 : decode cL_isTrimmed 62 = .ok (.invokestatic 123, 3) := by decide +kernel
theorem dL_isTrimmed_65 : decode cL_isTrimmed 65 = .ok (.ldc2_w 181, 3) := by decide +kernel
theorem dL_isTrimmed_68 : decode cL_isTrimmed 68 = .ok (.lcmp, 1) := by decide +kernel
theorem dL_isTrimmed_69 : decode cL_isTrimmed 69 = .ok (.ifCond .lt 40, 3) := by decide +kernel
theorem dL_isTrimmed_72 : decode cL_isTrimmed 72 = .ok (.iload 6, 2) := by decide +kernel
theorem dL_isTrimmed_74 : decode cL_isTrimmed 74 = .ok (.ifCond .eq 31, 3) := by decide +kernel
theorem dL_isTrimmed_77 : decode cL_isTrimmed 77 = .ok (.aload_n 0, 1) := by decide +kernel
theorem dL_isTrimmed_78 : decode cL_isTrimmed 78 = .ok (.bipush 15, 2) := by decide +kernel
theorem dL_isTrimmed_80 : decode cL_isTrimmed 80 = .ok (.iload 6, 2) := by decide +kernel
theorem dL_isTrimmed_82 : decode cL_isTrimmed 82 = .ok (.iconst 0, 1) := by decide +kernel
theorem dL_isTrimmed_83 : decode cL_isTrimmed 83 = .ok (.iconst 0, 1) := by decide +kernel
theorem dL_isTrimmed_84 : decode cL_isTrimmed 84 = .ok (.iconst 0, 1) := by decide +kernel
theorem dL_isTrimmed_85 : decode cL_isTrimmed 85 = .ok (.invokestatic 123, 3) := by decide +kernel
theorem dL_isTrimmed_88 : decode cL_isTrimmed 88 = .ok (.aload_n 0, 1) := by decide +kernel
theorem dL_isTrimmed_89 : decode cL_isTrimmed 89 = .ok (.bipush 15, 2) := by decide +kernel
theorem dL_isTrimmed_91 : decode cL_isTrimmed 91 = .ok (.iload 6, 2) := by decide +kernel
theorem dL_isTrimmed_93 : decode cL_isTrimmed 93 = .ok (.iconst 1, 1) := by decide +kernel
theorem dL_isTrimmed_94 : decode cL_isTrimmed 94 = .ok (.isub, 1) := by decide +kernel
theorem dL_isTrimmed_95 : decode cL_isTrimmed 95 = .ok (.iconst 0, 1) := by decide +kernel
theorem dL_isTrimmed_96 : decode cL_isTrimmed 96 = .ok (.iconst 0, 1) := by decide +kernel
theorem dL_isTrimmed_97 : decode cL_isTrimmed 97 = .ok (.iconst 0, 1) := by decide +kernel
theorem dL_isTrimmed_98 : decode cL_isTrimmed 98 = .ok (.invokestatic 123, 3) := by decide +kernel
theorem dL_isTrimmed_101 : decode cL_isTrimmed 101 = .ok (.lcmp, 1) := by decide +kernel
theorem dL_isTrimmed_102 : decode cL_isTrimmed 102 = .ok (.ifCond .lt 7, 3) := by decide +kernel
theorem dL_isTrimmed_105 : decode cL_isTrimmed 105 = .ok (.iconst 1, 1) := by decide +kernel
theorem dL_isTrimmed_106 : decode cL_isTrimmed 106 = .ok (.goto 4, 3) := by decide +kernel
theorem dL_isTrimmed_109 : decode cL_isTrimmed 109 = .ok (.iconst 0, 1) := by decide +kernel
theorem dL_isTrimmed_110 : decode cL_isTrimmed 110 = .ok (.istore 8, 2) := by decide +kernel
theorem dL_isTrimmed_112 : decode cL_isTrimmed 112 = .ok (.aload_n 0, 1) := by decide +kernel
theorem dL_isTrimmed_113 : decode cL_isTrimmed 113 = .ok (.bipush 16, 2) := by decide +kernel
theorem dL_isTrimmed_115 : decode cL_isTrimmed 115 = .ok (.iload 6, 2) := by decide +kernel
theorem dL_isTrimmed_117 : decode cL_isTrimmed 117 = .ok (.iload 7, 2) := by decide +kernel
theorem dL_isTrimmed_119 : decode cL_isTrimmed 119 = .ok (.iconst 0, 1) := by decide +kernel
theorem dL_isTrimmed_120 : decode cL_isTrimmed 120 = .ok (.iconst 0, 1) := by decide +kernel
theorem dL_isTrimmed_121 : decode cL_isTrimmed 121 = .ok (.invokestatic 123, 3) := by decide +kernel
theorem dL_isTrimmed_124 : decode cL_isTrimmed 124 = .ok (.lstore 9, 2) := by decide +kernel
theorem dL_isTrimmed_126 : decode cL_isTrimmed 126 = .ok (.lload 9, 2) := by decide +kernel
theorem dL_isTrimmed_128 : decode cL_isTrimmed 128 = .ok (.ldc2_w 151, 3) := by decide +kernel
theorem dL_isTrimmed_131 : decode cL_isTrimmed 131 = .ok (.lcmp, 1) := by decide +kernel
theorem dL_isTrimmed_132 : decode cL_isTrimmed 132 = .ok (.ifCond .ne 46, 3) := by decide +kernel
theorem dL_isTrimmed_135 : decode cL_isTrimmed 135 = .ok (.iload 8, 2) := by decide +kernel
theorem dL_isTrimmed_137 : decode cL_isTrimmed 137 = .ok (.ifCond .eq 39, 3) := by decide +kernel
theorem dL_isTrimmed_140 : decode cL_isTrimmed 140 = .ok (.aload_n 0, 1) := by decide +kernel
theorem dL_isTrimmed_141 : decode cL_isTrimmed 141 = .ok (.bipush 14, 2) := by decide +kernel
theorem dL_isTrimmed_143 : decode cL_isTrimmed 143 = .ok (.bipush 100, 2) := by decide +kernel
theorem dL_isTrimmed_145 : decode cL_isTrimmed 145 = .ok (.iload_n 3, 1) := by decide +kernel
theorem dL_isTrimmed_146 : decode cL_isTrimmed 146 = .ok (.iload 4, 2) := by decide +kernel
theorem dL_isTrimmed_148 : decode cL_isTrimmed 148 = .ok (.iconst 0, 1) := by decide +kernel
theorem dL_isTrimmed_149 : decode cL_isTrimmed 149 = .ok (.invokestatic 123, 3) := by decide +kernel
theorem dL_isTrimmed_152 : decode cL_isTrimmed 152 = .ok (.ldc2_w 181, 3) := by decide +kernel
theorem dL_isTrimmed_155 : decode cL_isTrimmed 155 = .ok (.lcmp, 1) := by decide +kernel
theorem dL_isTrimmed_156 : decode cL_isTrimmed 156 = .ok (.ifCond .lt 20, 3) := by decide +kernel
theorem dL_isTrimmed_159 : decode cL_isTrimmed 159 = .ok (.aload_n 0, 1) := by decide +kernel
theorem dL_isTrimmed_160 : decode cL_isTrimmed 160 = .ok (.iload 6, 2) := by decide +kernel
theorem dL_isTrimmed_162 : decode cL_isTrimmed 162 = .ok (.invokevirtual 65, 3) := by decide +kernel
theorem dL_isTrimmed_165 : decode cL_isTrimmed 165 = .ok (.iload 7, 2) := by decide +kernel
theorem dL_isTrimmed_167 : decode cL_isTrimmed 167 = .ok (.i2f, 1) := by decide +kernel
theorem dL_isTrimmed_168 : decode cL_isTrimmed 168 = .ok (.fcmp .l, 1) := by decide +kernel
theorem dL_isTrimmed_169 : decode cL_isTrimmed 169 = .ok (.ifCond .le 7, 3) := by decide +kernel
theorem dL_isTrimmed_172 : decode cL_isTrimmed 172 = .ok (.iconst 1, 1) := by decide +kernel
theorem dL_isTrimmed_173 : decode cL_isTrimmed 173 = .ok (.goto 4, 3) := by decide +kernel
theorem dL_isTrimmed_176 : decode cL_isTrimmed 176 = .ok (.iconst 0, 1) := by decide +kernel
theorem dL_isTrimmed_177 : decode cL_isTrimmed 177 = .ok (.ireturn, 1) := by decide +kernel
theorem dL_isTrimmed_178 : decode cL_isTrimmed 178 = .ok (.iload 8, 2) := by decide +kernel
theorem dL_isTrimmed_180 : decode cL_isTrimmed 180 = .ok (.ifCond .eq 56, 3) := by decide +kernel
theorem dL_isTrimmed_183 : decode cL_isTrimmed 183 = .ok (.lload 9, 2) := by decide +kernel
theorem dL_isTrimmed_185 : decode cL_isTrimmed 185 = .ok (.lconst 0, 1) := by decide +kernel
theorem dL_isTrimmed_186 : decode cL_isTrimmed 186 = .ok (.lcmp, 1) := by decide +kernel
theorem dL_isTrimmed_187 : decode cL_isTrimmed 187 = .ok (.ifCond .lt 49, 3) := by decide +kernel
theorem dL_isTrimmed_190 : decode cL_isTrimmed 190 = .ok (.lload 9, 2) := by decide +kernel
theorem dL_isTrimmed_192 : decode cL_isTrimmed 192 = .ok (.ldc2_w 174, 3) := by decide +kernel
theorem dL_isTrimmed_195 : decode cL_isTrimmed 195 = .ok (.lcmp, 1) := by decide +kernel
theorem dL_isTrimmed_196 : decode cL_isTrimmed 196 = .ok (.ifCond .gt 40, 3) := by decide +kernel
theorem dL_isTrimmed_199 : decode cL_isTrimmed 199 = .ok (.aload_n 0, 1) := by decide +kernel
theorem dL_isTrimmed_200 : decode cL_isTrimmed 200 = .ok (.bipush 14, 2) := by decide +kernel
theorem dL_isTrimmed_202 : decode cL_isTrimmed 202 = .ok (.lload 9, 2) := by decide +kernel
theorem dL_isTrimmed_204 : decode cL_isTrimmed 204 = .ok (.l2i, 1) := by decide +kernel
theorem dL_isTrimmed_205 : decode cL_isTrimmed 205 = .ok (.iload_n 3, 1) := by decide +kernel
theorem dL_isTrimmed_206 : decode cL_isTrimmed 206 = .ok (.iload 4, 2) := by decide +kernel
theorem dL_isTrimmed_208 : decode cL_isTrimmed 208 = .ok (.iconst 0, 1) := by decide +kernel
theorem dL_isTrimmed_209 : decode cL_isTrimmed 209 = .ok (.invokestatic 123, 3) := by decide +kernel
theorem dL_isTrimmed_212 : decode cL_isTrimmed 212 = .ok (.ldc2_w 181, 3) := by decide +kernel
theorem dL_isTrimmed_215 : decode cL_isTrimmed 215 = .ok (.lcmp, 1) := by decide +kernel
theorem dL_isTrimmed_216 : decode cL_isTrimmed 216 = .ok (.ifCond .lt 20, 3) := by decide +kernel
theorem dL_isTrimmed_219 : decode cL_isTrimmed 219 = .ok (.aload_n 0, 1) := by decide +kernel
theorem dL_isTrimmed_220 : decode cL_isTrimmed 220 = .ok (.iload 6, 2) := by decide +kernel
theorem dL_isTrimmed_222 : decode cL_isTrimmed 222 = .ok (.invokevirtual 65, 3) := by decide +kernel
theorem dL_isTrimmed_225 : decode cL_isTrimmed 225 = .ok (.iload 7, 2) := by decide +kernel
theorem dL_isTrimmed_227 : decode cL_isTrimmed 227 = .ok (.i2f, 1) := by decide +kernel
theorem dL_isTrimmed_228 : decode cL_isTrimmed 228 = .ok (.fcmp .g, 1) := by decide +kernel
theorem dL_isTrimmed_229 : decode cL_isTrimmed 229 = .ok (.ifCond .gt 7, 3) := by decide +kernel
theorem dL_isTrimmed_232 : decode cL_isTrimmed 232 = .ok (.iconst 1, 1) := by decide +kernel
theorem dL_isTrimmed_233 : decode cL_isTrimmed 233 = .ok (.goto 4, 3) := by decide +kernel
theorem dL_isTrimmed_236 : decode cL_isTrimmed 236 = .ok (.iconst 0, 1) := by decide +kernel
theorem dL_isTrimmed_237 : decode cL_isTrimmed 237 = .ok (.istore 8, 2) := by decide +kernel
theorem dL_isTrimmed_239 : decode cL_isTrimmed 239 = .ok (.iload 8, 2) := by decide +kernel
theorem dL_isTrimmed_241 : decode cL_isTrimmed 241 = .ok (.ifCond .eq 49, 3) := by decide +kernel
theorem dL_isTrimmed_244 : decode cL_isTrimmed 244 = .ok (.lload 9, 2) := by decide +kernel
theorem dL_isTrimmed_246 : decode cL_isTrimmed 246 = .ok (.lconst 0, 1) := by decide +kernel
theorem dL_isTrimmed_247 : decode cL_isTrimmed 247 = .ok (.lcmp, 1) := by decide +kernel
theorem dL_isTrimmed_248 : decode cL_isTrimmed 248 = .ok (.ifCond .eq 38, 3) := by decide +kernel
theorem dL_isTrimmed_251 : decode cL_isTrimmed 251 = .ok (.aload_n 0, 1) := by decide +kernel
theorem dL_isTrimmed_252 : decode cL_isTrimmed 252 = .ok (.bipush 14, 2) := by decide +kernel
theorem dL_isTrimmed_254 : decode cL_isTrimmed 254 = .ok (.lload 9, 2) := by decide +kernel
theorem dL_isTrimmed_256 : decode cL_isTrimmed 256 = .ok (.l2i, 1) := by decide +kernel
theorem dL_isTrimmed_257 : decode cL_isTrimmed 257 = .ok (.iconst 1, 1) := by decide +kernel
theorem dL_isTrimmed_258 : decode cL_isTrimmed 258 = .ok (.isub, 1) := by decide +kernel
theorem dL_isTrimmed_259 : decode cL_isTrimmed 259 = .ok (.iload_n 3, 1) := by decide +kernel
theorem dL_isTrimmed_260 : decode cL_isTrimmed 260 = .ok (.iload 4, 2) := by decide +kernel
theorem dL_isTrimmed_262 : decode cL_isTrimmed 262 = .ok (.iconst 0, 1) := by decide +kernel
theorem dL_isTrimmed_263 : decode cL_isTrimmed 263 = .ok (.invokestatic 123, 3) := by decide +kernel
theorem dL_isTrimmed_266 : decode cL_isTrimmed 266 = .ok (.ldc2_w 181, 3) := by decide +kernel
theorem dL_isTrimmed_269 : decode cL_isTrimmed 269 = .ok (.lcmp, 1) := by decide +kernel
theorem dL_isTrimmed_270 : decode cL_isTrimmed 270 = .ok (.ifCond .lt 20, 3) := by decide +kernel
theorem dL_isTrimmed_273 : decode cL_isTrimmed 273 = .ok (.aload_n 0, 1) := by decide +kernel
theorem dL_isTrimmed_274 : decode cL_isTrimmed 274 = .ok (.iload 6, 2) := by decide +kernel
theorem dL_isTrimmed_276 : decode cL_isTrimmed 276 = .ok (.invokevirtual 65, 3) := by decide +kernel
theorem dL_isTrimmed_279 : decode cL_isTrimmed 279 = .ok (.iload 7, 2) := by decide +kernel
theorem dL_isTrimmed_281 : decode cL_isTrimmed 281 = .ok (.i2f, 1) := by decide +kernel
theorem dL_isTrimmed_282 : decode cL_isTrimmed 282 = .ok (.fcmp .l, 1) := by decide +kernel
theorem dL_isTrimmed_283 : decode cL_isTrimmed 283 = .ok (.ifCond .le 7, 3) := by decide +kernel
theorem dL_isTrimmed_286 : decode cL_isTrimmed 286 = .ok (.iconst 1, 1) := by decide +kernel
theorem dL_isTrimmed_287 : decode cL_isTrimmed 287 = .ok (.goto 4, 3) := by decide +kernel
theorem dL_isTrimmed_290 : decode cL_isTrimmed 290 = .ok (.iconst 0, 1) := by decide +kernel
theorem dL_isTrimmed_291 : decode cL_isTrimmed 291 = .ok (.ireturn, 1) := by decide +kernel
