theorem dL_isGust_0 : decode cL_isGust 0 = .ok (.iload_n 3, 1) := by decide +kernel
theorem dL_isGust_1 : decode cL_isGust 1 = .ok (.ifCond .ne 148, 3) := by decide +kernel
theorem dL_isGust_4 : decode cL_isGust 4 = .ok (.iload 4, 2) := by decide +kernel
theorem dL_isGust_6 : decode cL_isGust 6 = .ok (.iconst 3, 1) := by decide +kernel
theorem dL_isGust_7 : decode cL_isGust 7 = .ok (.irem, 1) := by decide +kernel
theorem dL_isGust_8 : decode cL_isGust 8 = .ok (.ifCond .ne 17, 3) := by decide +kernel
theorem dL_isGust_11 : decode cL_isGust 11 = .ok (.iload 4, 2) := by decide +kernel
theorem dL_isGust_13 : decode cL_isGust 13 = .ok (.i2l, 1) := by decide +kernel
theorem dL_isGust_14 : decode cL_isGust 14 = .ok (.ldc2_w 177, 3) := by decide +kernel
theorem dL_isGust_17 : decode cL_isGust 17 = .ok (.lmul, 1) := by decide +kernel
theorem dL_isGust_18 : decode cL_isGust 18 = .ok (.ldc2_w 153, 3) := by decide +kernel
theorem dL_isGust_21 : decode cL_isGust 21 = .ok (.lrem, 1) := by decide +kernel
theorem dL_isGust_22 : decode cL_isGust 22 = .ok (.goto 12, 3) := by decide +kernel
theorem dL_isGust_25 : decode cL_isGust 25 = .ok (.iload 4, 2) := by decide +kernel
theorem dL_isGust_27 : decode cL_isGust 27 = .ok (.iconst 3, 1) := by decide +kernel
theorem dL_isGust_28 : decode cL_isGust 28 = .ok (.idiv, 1) := by decide +kernel
theorem dL_isGust_29 : decode cL_isGust 29 = .ok (.sipush 3000, 3) := by decide +kernel
theorem dL_isGust_32 : decode cL_isGust 32 = .ok (.irem, 1) := by decide +kernel
theorem dL_isGust_33 : decode cL_isGust 33 = .ok (.i2l, 1) := by decide +kernel
theorem dL_isGust_34 : decode cL_isGust 34 = .ok (.lstore 5, 2) := by decide +kernel
theorem dL_isGust_36 : decode cL_isGust 36 = .ok (.aload_n 0, 1) := by decide +kernel
theorem dL_isGust_37 : decode cL_isGust 37 = .ok (.iconst 1, 1) := by decide +kernel
theorem dL_isGust_38 : decode cL_isGust 38 = .ok (.iload 4, 2) := by decide +kernel
theorem dL_isGust_40 : decode cL_isGust 40 = .ok (.iconst 5, 1) := by decide +kernel
theorem dL_isGust_41 : decode cL_isGust 41 = .ok (.idiv, 1) := by decide +kernel
theorem dL_isGust_42 : decode cL_isGust 42 = .ok (.bipush 100, 2) := by decide +kernel
theorem dL_isGust_44 : decode cL_isGust 44 = .ok (.irem, 1) := by decide +kernel
theorem dL_isGust_45 : decode cL_isGust 45 = .ok (.iadd, 1) := by decide +kernel
theorem dL_isGust_46 : decode cL_isGust 46 = .ok (.lload 5, 2) := by decide +kernel
theorem dL_isGust_48 : decode cL_isGust 48 = .ok (.invokestatic 155, 3) := by decide +kernel
theorem dL_isGust_51 : decode cL_isGust 51 = .ok (.lstore 7, 2) := by decide +kernel
theorem dL_isGust_53 : decode cL_isGust 53 = .ok (.lload 7, 2) := by decide +kernel
theorem dL_isGust_55 : decode cL_isGust 55 = .ok (.aload_n 1, 1) := by decide +kernel
theorem dL_isGust_56 : decode cL_isGust 56 = .ok (.iconst 3, 1) := by decide +kernel
theorem dL_isGust_57 : decode cL_isGust 57 = .ok (.iaload, 1) := by decide +kernel
theorem dL_isGust_58 : decode cL_isGust 58 = .ok (.bipush 8, 2) := by decide +kernel
theorem dL_isGust_60 : decode cL_isGust 60 = .ok (.if_icmp .ne 9, 3) := by decide +kernel
theorem dL_isGust_63 : decode cL_isGust 63 = .ok (.ldc2_w 113, 3) := by decide +kernel
theorem dL_isGust_66 : decode cL_isGust 66 = .ok (.goto 7, 3) := by decide +kernel
theorem dL_isGust_69 : decode cL_isGust 69 = .ok (.aload_n 1, 1) := by decide +kernel
theorem dL_isGust_70 : decode cL_isGust 70 = .ok (.iconst 3, 1) := by decide +kernel
theorem dL_isGust_71 : decode cL_isGust 71 = .ok (.iaload, 1) := by decide +kernel
theorem dL_isGust_72 : decode cL_isGust 72 = .ok (.i2l, 1) := by decide +kernel
theorem dL_isGust_73 : decode cL_isGust 73 = .ok (.lcmp, 1) := by decide +kernel
theorem dL_isGust_74 : decode cL_isGust 74 = .ok (.ifCond .ne 7, 3) := by decide +kernel
theorem dL_isGust_77 : decode cL_isGust 77 = .ok (.iconst 1, 1) := by decide +kernel
theorem dL_isGust_78 : decode cL_isGust 78 = .ok (.goto 4, 3) := by decide +kernel
theorem dL_isGust_81 : decode cL_isGust 81 = .ok (.iconst 0, 1) := by decide +kernel
theorem dL_isGust_82 : decode cL_isGust 82 = .ok (.istore 9, 2) := by decide +kernel
theorem dL_isGust_84 : decode cL_isGust 84 = .ok (.lload 7, 2) := by decide +kernel
theorem dL_isGust_86 : decode cL_isGust 86 = .ok (.lconst 0, 1) := by decide +kernel
theorem dL_isGust_87 : decode cL_isGust 87 = .ok (.lcmp, 1) := by decide +kernel
theorem dL_isGust_88 : decode cL_isGust 88 = .ok (.ifCond .lt 17, 3) := by decide +kernel
theorem dL_isGust_91 : decode cL_isGust 91 = .ok (.aload_n 2, 1) := by decide +kernel
theorem dL_isGust_92 : decode cL_isGust 92 = .ok (.aload_n 1, 1) := by decide +kernel
theorem dL_isGust_93 : decode cL_isGust 93 = .ok (.iconst 3, 1) := by decide +kernel
theorem dL_isGust_94 : decode cL_isGust 94 = .ok (.iaload, 1) := by decide +kernel
theorem dL_isGust_95 : decode cL_isGust 95 = .ok (.lload 5, 2) := by decide +kernel
theorem dL_isGust_97 : decode cL_isGust 97 = .ok (.lastore, 1) := by decide +kernel
theorem dL_isGust_98 : decode cL_isGust 98 = .ok (.aload_n 1, 1) := by decide +kernel
theorem dL_isGust_99 : decode cL_isGust 99 = .ok (.iconst 3, 1) := by decide +kernel
theorem dL_isGust_100 : decode cL_isGust 100 = .ok (.dup2, 1) := by decide +kernel
theorem dL_isGust_101 : decode cL_isGust 101 = .ok (.iaload, 1) := by decide +kernel
theorem dL_isGust_102 : decode cL_isGust 102 = .ok (.iconst 1, 1) := by decide +kernel
theorem dL_isGust_103 : decode cL_isGust 103 = .ok (.iadd, 1) := by decide +kernel
theorem dL_isGust_104 : decode cL_isGust 104 = .ok (.iastore, 1) := by decide +kernel
theorem dL_isGust_105 : decode cL_isGust 105 = .ok (.iload 9, 2) := by decide +kernel
theorem dL_isGust_107 : decode cL_isGust 107 = .ok (.ifCond .eq 40, 3) := by decide +kernel
theorem dL_isGust_110 : decode cL_isGust 110 = .ok (.lload 7, 2) := by decide +kernel
theorem dL_isGust_112 : decode cL_isGust 112 = .ok (.lconst 0, 1) := by decide +kernel
theorem dL_isGust_113 : decode cL_isGust 113 = .ok (.lcmp, 1) := by decide +kernel
theorem dL_isGust_114 : decode cL_isGust 114 = .ok (.ifCond .lt 29, 3) := by decide +kernel
theorem dL_isGust_117 : decode cL_isGust 117 = .ok (.aload_n 0, 1) := by decide +kernel
theorem dL_isGust_118 : decode cL_isGust 118 = .ok (.lload 7, 2) := by decide +kernel
theorem dL_isGust_120 : decode cL_isGust 120 = .ok (.l2i, 1) := by decide +kernel
theorem dL_isGust_121 : decode cL_isGust 121 = .ok (.invokevirtual 57, 3) := by decide +kernel
theorem dL_isGust_124 : decode cL_isGust 124 = .ok (.lconst 0, 1) := by decide +kernel
theorem dL_isGust_125 : decode cL_isGust 125 = .ok (.lcmp, 1) := by decide +kernel
theorem dL_isGust_126 : decode cL_isGust 126 = .ok (.ifCond .ne 21, 3) := by decide +kernel
theorem dL_isGust_129 : decode cL_isGust 129 = .ok (.aload_n 0, 1) := by decide +kernel
theorem dL_isGust_130 : decode cL_isGust 130 = .ok (.invokevirtual 129, 3) := by decide +kernel
theorem dL_isGust_133 : decode cL_isGust 133 = .ok (.lload 7, 2) := by decide +kernel
theorem dL_isGust_135 : decode cL_isGust 135 = .ok (.l2i, 1) := by decide +kernel
theorem dL_isGust_136 : decode cL_isGust 136 = .ok (.ishr, 1) := by decide +kernel
theorem dL_isGust_137 : decode cL_isGust 137 = .ok (.iconst 1, 1) := by decide +kernel
theorem dL_isGust_138 : decode cL_isGust 138 = .ok (.iand, 1) := by decide +kernel
theorem dL_isGust_139 : decode cL_isGust 139 = .ok (.iconst 1, 1) := by decide +kernel
theorem dL_isGust_140 : decode cL_isGust 140 = .ok (.if_icmp .ne 7, 3) := by decide +kernel
theorem dL_isGust_143 : decode cL_isGust 143 = .ok (.iconst 1, 1) := by decide +kernel
theorem dL_isGust_144 : decode cL_isGust 144 = .ok (.goto 4, 3) := by decide +kernel
theorem dL_isGust_147 : decode cL_isGust 147 = .ok (.iconst 0, 1) := by decide +kernel
theorem dL_isGust_148 : decode cL_isGust 148 = .ok (.ireturn, 1) := by decide +kernel
theorem dL_isGust_149 : decode cL_isGust 149 = .ok (.aload_n 0, 1) := by decide +kernel
theorem dL_isGust_150 : decode cL_isGust 150 = .ok (.invokevirtual 129, 3) := by decide +kernel
theorem dL_isGust_153 : decode cL_isGust 153 = .ok (.istore 5, 2) := by decide +kernel
theorem dL_isGust_155 : decode cL_isGust 155 = .ok (.iload 4, 2) := by decide +kernel
theorem dL_isGust_157 : decode cL_isGust 157 = .ok (.iconst 4, 1) := by decide +kernel
theorem dL_isGust_158 : decode cL_isGust 158 = .ok (.irem, 1) := by decide +kernel
theorem dL_isGust_159 : decode cL_isGust 159 = .ok (.ifCond .ne 17, 3) := by decide +kernel
theorem dL_isGust_162 : decode cL_isGust 162 = .ok (.iload 4, 2) := by decide +kernel
theorem dL_isGust_164 : decode cL_isGust 164 = .ok (.i2l, 1) := by decide +kernel
theorem dL_isGust_165 : decode cL_isGust 165 = .ok (.ldc2_w 179, 3) := by decide +kernel
theorem dL_isGust_168 : decode cL_isGust 168 = .ok (.lmul, 1) := by decide +kernel
theorem dL_isGust_169 : decode cL_isGust 169 = .ok (.ldc2_w 160, 3) := by decide +kernel
theorem dL_isGust_172 : decode cL_isGust 172 = .ok (.lrem, 1) := by decide +kernel
theorem dL_isGust_173 : decode cL_isGust 173 = .ok (.goto 12, 3) := by decide +kernel
theorem dL_isGust_176 : decode cL_isGust 176 = .ok (.iload 4, 2) := by decide +kernel
theorem dL_isGust_178 : decode cL_isGust 178 = .ok (.iconst 4, 1) := by decide +kernel
theorem dL_isGust_179 : decode cL_isGust 179 = .ok (.idiv, 1) := by decide +kernel
theorem dL_isGust_180 : decode cL_isGust 180 = .ok (.sipush 9000, 3) := by decide +kernel
theorem dL_isGust_183 : decode cL_isGust 183 = .ok (.irem, 1) := by decide +kernel
theorem dL_isGust_184 : decode cL_isGust 184 = .ok (.i2l, 1) := by decide +kernel
theorem dL_isGust_185 : decode cL_isGust 185 = .ok (.lstore 6, 2) := by decide +kernel
theorem dL_isGust_187 : decode cL_isGust 187 = .ok (.aload_n 0, 1) := by decide +kernel
theorem dL_isGust_188 : decode cL_isGust 188 = .ok (.bipush (-9), 2) := by decide +kernel
theorem dL_isGust_190 : decode cL_isGust 190 = .ok (.lload 6, 2) := by decide +kernel
theorem dL_isGust_192 : decode cL_isGust 192 = .ok (.invokestatic 155, 3) := by decide +kernel
theorem dL_isGust_195 : decode cL_isGust 195 = .ok (.lstore 8, 2) := by decide +kernel
theorem dL_isGust_197 : decode cL_isGust 197 = .ok (.aload_n 0, 1) := by decide +kernel
theorem dL_isGust_198 : decode cL_isGust 198 = .ok (.invokevirtual 129, 3) := by decide +kernel
theorem dL_isGust_201 : decode cL_isGust 201 = .ok (.istore 10, 2) := by decide +kernel
theorem dL_isGust_203 : decode cL_isGust 203 = .ok (.lconst 0, 1) := by decide +kernel
theorem dL_isGust_204 : decode cL_isGust 204 = .ok (.lstore 11, 2) := by decide +kernel
theorem dL_isGust_206 : decode cL_isGust 206 = .ok (.iconst 0, 1) := by decide +kernel
theorem dL_isGust_207 : decode cL_isGust 207 = .ok (.istore 13, 2) := by decide +kernel
theorem dL_isGust_209 : decode cL_isGust 209 = .ok (.iconst 0, 1) := by decide +kernel
theorem dL_isGust_210 : decode cL_isGust 210 = .ok (.istore 14, 2) := by decide +kernel
theorem dL_isGust_212 : decode cL_isGust 212 = .ok (.iload 14, 2) := by decide +kernel
theorem dL_isGust_214 : decode cL_isGust 214 = .ok (.aload_n 1, 1) := by decide +kernel
theorem dL_isGust_215 : decode cL_isGust 215 = .ok (.iconst 3, 1) := by decide +kernel
theorem dL_isGust_216 : decode cL_isGust 216 = .ok (.iaload, 1) := by decide +kernel
theorem dL_isGust_217 : decode cL_isGust 217 = .ok (.if_icmp .ge 55, 3) := by decide +kernel
theorem dL_isGust_220 : decode cL_isGust 220 = .ok (.lload 11, 2) := by decide +kernel
theorem dL_isGust_222 : decode cL_isGust 222 = .ok (.iload 10, 2) := by decide +kernel
theorem dL_isGust_224 : decode cL_isGust 224 = .ok (.iload 14, 2) := by decide +kernel
theorem dL_isGust_226 : decode cL_isGust 226 = .ok (.ishr, 1) := by decide +kernel
theorem dL_isGust_227 : decode cL_isGust 227 = .ok (.iconst 1, 1) := by decide +kernel
theorem dL_isGust_228 : decode cL_isGust 228 = .ok (.iand, 1) := by decide +kernel
theorem dL_isGust_229 : decode cL_isGust 229 = .ok (.iconst 1, 1) := by decide +kernel
theorem dL_isGust_230 : decode cL_isGust 230 = .ok (.if_icmp .ne 12, 3) := by decide +kernel
theorem dL_isGust_233 : decode cL_isGust 233 = .ok (.aload_n 0, 1) := by decide +kernel
theorem dL_isGust_234 : decode cL_isGust 234 = .ok (.iload 14, 2) := by decide +kernel
theorem dL_isGust_236 : decode cL_isGust 236 = .ok (.invokevirtual 57, 3) := by decide +kernel
theorem dL_isGust_239 : decode cL_isGust 239 = .ok (.goto 4, 3) := by decide +kernel
theorem dL_isGust_242 : decode cL_isGust 242 = .ok (.lconst 0, 1) := by decide +kernel
theorem dL_isGust_243 : decode cL_isGust 243 = .ok (.ladd, 1) := by decide +kernel
theorem dL_isGust_244 : decode cL_isGust 244 = .ok (.lstore 11, 2) := by decide +kernel
theorem dL_isGust_246 : decode cL_isGust 246 = .ok (.iload 13, 2) := by decide +kernel
theorem dL_isGust_248 : decode cL_isGust 248 = .ok (.iload 5, 2) := by decide +kernel
theorem dL_isGust_250 : decode cL_isGust 250 = .ok (.iload 14, 2) := by decide +kernel
theorem dL_isGust_252 : decode cL_isGust 252 = .ok (.ishr, 1) := by decide +kernel
theorem dL_isGust_253 : decode cL_isGust 253 = .ok (.iconst 1, 1) := by decide +kernel
theorem dL_isGust_254 : decode cL_isGust 254 = .ok (.iand, 1) := by decide +kernel
theorem dL_isGust_255 : decode cL_isGust 255 = .ok (.iload 10, 2) := by decide +kernel
theorem dL_isGust_257 : decode cL_isGust 257 = .ok (.iload 14, 2) := by decide +kernel
theorem dL_isGust_259 : decode cL_isGust 259 = .ok (.ishr, 1) := by decide +kernel
theorem dL_isGust_260 : decode cL_isGust 260 = .ok (.iconst 1, 1) := by decide +kernel
theorem dL_isGust_261 : decode cL_isGust 261 = .ok (.iand, 1) := by decide +kernel
theorem dL_isGust_262 : decode cL_isGust 262 = .ok (.isub, 1) := by decide +kernel
theorem dL_isGust_263 : decode cL_isGust 263 = .ok (.iadd, 1) := by decide +kernel
theorem dL_isGust_264 : decode cL_isGust 264 = .ok (.istore 13, 2) := by decide +kernel
theorem dL_isGust_266 : decode cL_isGust 266 = .ok (.iinc 14 1, 3) := by decide +kernel
theorem dL_isGust_269 : decode cL_isGust 269 = .ok (.goto (-57), 3) := by decide +kernel
theorem dL_isGust_272 : decode cL_isGust 272 = .ok (.iload 10, 2) := by decide +kernel
theorem dL_isGust_274 : decode cL_isGust 274 = .ok (.iload 5, 2) := by decide +kernel
theorem dL_isGust_276 : decode cL_isGust 276 = .ok (.iconst (-1), 1) := by decide +kernel
theorem dL_isGust_277 : decode cL_isGust 277 = .ok (.ixor, 1) := by decide +kernel
theorem dL_isGust_278 : decode cL_isGust 278 = .ok (.iand, 1) := by decide +kernel
theorem dL_isGust_279 : decode cL_isGust 279 = .ok (.ifCond .ne 29, 3) := by decide +kernel
theorem dL_isGust_282 : decode cL_isGust 282 = .ok (.lload 8, 2) := by decide +kernel
theorem dL_isGust_284 : decode cL_isGust 284 = .ok (.iload 13, 2) := by decide +kernel
theorem dL_isGust_286 : decode cL_isGust 286 = .ok (.i2l, 1) := by decide +kernel
theorem dL_isGust_287 : decode cL_isGust 287 = .ok (.lcmp, 1) := by decide +kernel
theorem dL_isGust_288 : decode cL_isGust 288 = .ok (.ifCond .ne 20, 3) := by decide +kernel
theorem dL_isGust_291 : decode cL_isGust 291 = .ok (.iload 10, 2) := by decide +kernel
theorem dL_isGust_293 : decode cL_isGust 293 = .ok (.ifCond .eq 11, 3) := by decide +kernel
theorem dL_isGust_296 : decode cL_isGust 296 = .ok (.lload 11, 2) := by decide +kernel
theorem dL_isGust_298 : decode cL_isGust 298 = .ok (.lload 6, 2) := by decide +kernel
theorem dL_isGust_300 : decode cL_isGust 300 = .ok (.lcmp, 1) := by decide +kernel
theorem dL_isGust_301 : decode cL_isGust 301 = .ok (.ifCond .ne 7, 3) := by decide +kernel
theorem dL_isGust_304 : decode cL_isGust 304 = .ok (.iconst 1, 1) := by decide +kernel
theorem dL_isGust_305 : decode cL_isGust 305 = .ok (.goto 4, 3) := by decide +kernel
theorem dL_isGust_308 : decode cL_isGust 308 = .ok (.iconst 0, 1) := by decide +kernel
theorem dL_isGust_309 : decode cL_isGust 309 = .ok (.ireturn, 1) := by decide +kernel
