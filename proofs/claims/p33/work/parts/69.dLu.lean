theorem dL_isNet_0 : decode cL_isNet 0 = .ok (.iload_n 1, 1) := by decide +kernel
theorem dL_isNet_1 : decode cL_isNet 1 = .ok (.iconst 2, 1) := by decide +kernel
theorem dL_isNet_2 : decode cL_isNet 2 = .ok (.if_icmp .ge 76, 3) := by decide +kernel
theorem dL_isNet_5 : decode cL_isNet 5 = .ok (.iload_n 2, 1) := by decide +kernel
theorem dL_isNet_6 : decode cL_isNet 6 = .ok (.bipush 36, 2) := by decide +kernel
theorem dL_isNet_8 : decode cL_isNet 8 = .ok (.irem, 1) := by decide +kernel
theorem dL_isNet_9 : decode cL_isNet 9 = .ok (.istore_n 3, 1) := by decide +kernel
theorem dL_isNet_10 : decode cL_isNet 10 = .ok (.iload_n 2, 1) := by decide +kernel
theorem dL_isNet_11 : decode cL_isNet 11 = .ok (.bipush 36, 2) := by decide +kernel
theorem dL_isNet_13 : decode cL_isNet 13 = .ok (.idiv, 1) := by decide +kernel
theorem dL_isNet_14 : decode cL_isNet 14 = .ok (.sipush 401, 3) := by decide +kernel
theorem dL_isNet_17 : decode cL_isNet 17 = .ok (.irem, 1) := by decide +kernel
theorem dL_isNet_18 : decode cL_isNet 18 = .ok (.sipush 200, 3) := by decide +kernel
theorem dL_isNet_21 : decode cL_isNet 21 = .ok (.isub, 1) := by decide +kernel
theorem dL_isNet_22 : decode cL_isNet 22 = .ok (.istore 4, 2) := by decide +kernel
theorem dL_isNet_24 : decode cL_isNet 24 = .ok (.aload_n 0, 1) := by decide +kernel
theorem dL_isNet_25 : decode cL_isNet 25 = .ok (.iload_n 3, 1) := by decide +kernel
theorem dL_isNet_26 : decode cL_isNet 26 = .ok (.invokevirtual 54, 3) := by decide +kernel
theorem dL_isNet_29 : decode cL_isNet 29 = .ok (.i2l, 1) := by decide +kernel
theorem dL_isNet_30 : decode cL_isNet 30 = .ok (.lstore 5, 2) := by decide +kernel
theorem dL_isNet_32 : decode cL_isNet 32 = .ok (.aload_n 0, 1) := by decide +kernel
theorem dL_isNet_33 : decode cL_isNet 33 = .ok (.bipush 9, 2) := by decide +kernel
theorem dL_isNet_35 : decode cL_isNet 35 = .ok (.iload_n 3, 1) := by decide +kernel
theorem dL_isNet_36 : decode cL_isNet 36 = .ok (.iload 4, 2) := by decide +kernel
theorem dL_isNet_38 : decode cL_isNet 38 = .ok (.iload_n 2, 1) := by decide +kernel
theorem dL_isNet_39 : decode cL_isNet 39 = .ok (.bipush 7, 2) := by decide +kernel
theorem dL_isNet_41 : decode cL_isNet 41 = .ok (.idiv, 1) := by decide +kernel
theorem dL_isNet_42 : decode cL_isNet 42 = .ok (.iconst 3, 1) := by decide +kernel
theorem dL_isNet_43 : decode cL_isNet 43 = .ok (.irem, 1) := by decide +kernel
theorem dL_isNet_44 : decode cL_isNet 44 = .ok (.ifCond .le 7, 3) := by decide +kernel
theorem dL_isNet_47 : decode cL_isNet 47 = .ok (.iconst 1, 1) := by decide +kernel
theorem dL_isNet_48 : decode cL_isNet 48 = .ok (.goto 4, 3) := by decide +kernel
theorem dL_isNet_51 : decode cL_isNet 51 = .ok (.iconst 0, 1) := by decide +kernel
theorem dL_isNet_52 : decode cL_isNet 52 = .ok (.iconst 0, 1) := by decide +kernel
theorem dL_isNet_53 : decode cL_isNet 53 = .ok (.invokestatic 123, 3) := by decide +kernel
theorem dL_isNet_56 : decode cL_isNet 56 = .ok (.lload 5, 2) := by decide +kernel
theorem dL_isNet_58 : decode cL_isNet 58 = .ok (.lcmp, 1) := by decide +kernel
theorem dL_isNet_59 : decode cL_isNet 59 = .ok (.ifCond .ne 17, 3) := by decide +kernel
theorem dL_isNet_62 : decode cL_isNet 62 = .ok (.aload_n 0, 1) := by decide +kernel
theorem dL_isNet_63 : decode cL_isNet 63 = .ok (.iload_n 3, 1) := by decide +kernel
theorem dL_isNet_64 : decode cL_isNet 64 = .ok (.invokevirtual 54, 3) := by decide +kernel
theorem dL_isNet_67 : decode cL_isNet 67 = .ok (.iload 4, 2) := by decide +kernel
theorem dL_isNet_69 : decode cL_isNet 69 = .ok (.if_icmp .ne 7, 3) := by decide +kernel
theorem dL_isNet_72 : decode cL_isNet 72 = .ok (.iconst 1, 1) := by decide +kernel
theorem dL_isNet_73 : decode cL_isNet 73 = .ok (.goto 4, 3) := by decide +kernel
theorem dL_isNet_76 : decode cL_isNet 76 = .ok (.iconst 0, 1) := by decide +kernel
theorem dL_isNet_77 : decode cL_isNet 77 = .ok (.ireturn, 1) := by decide +kernel
theorem dL_isNet_78 : decode cL_isNet 78 = .ok (.iload_n 1, 1) := by decide +kernel
theorem dL_isNet_79 : decode cL_isNet 79 = .ok (.iconst 2, 1) := by decide +kernel
theorem dL_isNet_80 : decode cL_isNet 80 = .ok (.if_icmp .ne 58, 3) := by decide +kernel
theorem dL_isNet_83 : decode cL_isNet 83 = .ok (.aload_n 0, 1) := by decide +kernel
theorem dL_isNet_84 : decode cL_isNet 84 = .ok (.bipush 10, 2) := by decide +kernel
theorem dL_isNet_86 : decode cL_isNet 86 = .ok (.iload_n 2, 1) := by decide +kernel
theorem dL_isNet_87 : decode cL_isNet 87 = .ok (.bipush 101, 2) := by decide +kernel
theorem dL_isNet_89 : decode cL_isNet 89 = .ok (.irem, 1) := by decide +kernel
theorem dL_isNet_90 : decode cL_isNet 90 = .ok (.iconst 0, 1) := by decide +kernel
theorem dL_isNet_91 : decode cL_isNet 91 = .ok (.iconst 0, 1) := by decide +kernel
theorem dL_isNet_92 : decode cL_isNet 92 = .ok (.iconst 0, 1) := by decide +kernel
theorem dL_isNet_93 : decode cL_isNet 93 = .ok (.invokestatic 123, 3) := by decide +kernel
theorem dL_isNet_96 : decode cL_isNet 96 = .ok (.lstore_n 3, 1) := by decide +kernel
theorem dL_isNet_97 : decode cL_isNet 97 = .ok (.lload_n 3, 1) := by decide +kernel
theorem dL_isNet_98 : decode cL_isNet 98 = .ok (.lconst 0, 1) := by decide +kernel
theorem dL_isNet_99 : decode cL_isNet 99 = .ok (.lcmp, 1) := by decide +kernel
theorem dL_isNet_100 : decode cL_isNet 100 = .ok (.ifCond .lt 36, 3) := by decide +kernel
theorem dL_isNet_103 : decode cL_isNet 103 = .ok (.lload_n 3, 1) := by decide +kernel
theorem dL_isNet_104 : decode cL_isNet 104 = .ok (.ldc2_w 174, 3) := by decide +kernel
theorem dL_isNet_107 : decode cL_isNet 107 = .ok (.lcmp, 1) := by decide +kernel
theorem dL_isNet_108 : decode cL_isNet 108 = .ok (.ifCond .gt 28, 3) := by decide +kernel
theorem dL_isNet_111 : decode cL_isNet 111 = .ok (.aload_n 0, 1) := by decide +kernel
theorem dL_isNet_112 : decode cL_isNet 112 = .ok (.bipush 10, 2) := by decide +kernel
theorem dL_isNet_114 : decode cL_isNet 114 = .ok (.iload_n 2, 1) := by decide +kernel
theorem dL_isNet_115 : decode cL_isNet 115 = .ok (.iconst 4, 1) := by decide +kernel
theorem dL_isNet_116 : decode cL_isNet 116 = .ok (.irem, 1) := by decide +kernel
theorem dL_isNet_117 : decode cL_isNet 117 = .ok (.iconst 0, 1) := by decide +kernel
theorem dL_isNet_118 : decode cL_isNet 118 = .ok (.iconst 0, 1) := by decide +kernel
theorem dL_isNet_119 : decode cL_isNet 119 = .ok (.iconst 0, 1) := by decide +kernel
theorem dL_isNet_120 : decode cL_isNet 120 = .ok (.invokestatic 123, 3) := by decide +kernel
theorem dL_isNet_123 : decode cL_isNet 123 = .ok (.iload_n 2, 1) := by decide +kernel
theorem dL_isNet_124 : decode cL_isNet 124 = .ok (.bipush 101, 2) := by decide +kernel
theorem dL_isNet_126 : decode cL_isNet 126 = .ok (.irem, 1) := by decide +kernel
theorem dL_isNet_127 : decode cL_isNet 127 = .ok (.i2l, 1) := by decide +kernel
theorem dL_isNet_128 : decode cL_isNet 128 = .ok (.lcmp, 1) := by decide +kernel
theorem dL_isNet_129 : decode cL_isNet 129 = .ok (.ifCond .ne 7, 3) := by decide +kernel
theorem dL_isNet_132 : decode cL_isNet 132 = .ok (.iconst 1, 1) := by decide +kernel
theorem dL_isNet_133 : decode cL_isNet 133 = .ok (.goto 4, 3) := by decide +kernel
theorem dL_isNet_136 : decode cL_isNet 136 = .ok (.iconst 0, 1) := by decide +kernel
theorem dL_isNet_137 : decode cL_isNet 137 = .ok (.ireturn, 1) := by decide +kernel
theorem dL_isNet_138 : decode cL_isNet 138 = .ok (.ldc 176, 2) := by decide +kernel
theorem dL_isNet_140 : decode cL_isNet 140 = .ok (.istore_n 3, 1) := by decide +kernel
theorem dL_isNet_141 : decode cL_isNet 141 = .ok (.iconst 0, 1) := by decide +kernel
theorem dL_isNet_142 : decode cL_isNet 142 = .ok (.istore 4, 2) := by decide +kernel
theorem dL_isNet_144 : decode cL_isNet 144 = .ok (.iload 4, 2) := by decide +kernel
theorem dL_isNet_146 : decode cL_isNet 146 = .ok (.bipush 36, 2) := by decide +kernel
theorem dL_isNet_148 : decode cL_isNet 148 = .ok (.if_icmp .ge 30, 3) := by decide +kernel
theorem dL_isNet_151 : decode cL_isNet 151 = .ok (.aload_n 0, 1) := by decide +kernel
theorem dL_isNet_152 : decode cL_isNet 152 = .ok (.iload 4, 2) := by decide +kernel
theorem dL_isNet_154 : decode cL_isNet 154 = .ok (.invokevirtual 54, 3) := by decide +kernel
theorem dL_isNet_157 : decode cL_isNet 157 = .ok (.iload_n 3, 1) := by decide +kernel
theorem dL_isNet_158 : decode cL_isNet 158 = .ok (.if_icmp .le 12, 3) := by decide +kernel
theorem dL_isNet_161 : decode cL_isNet 161 = .ok (.aload_n 0, 1) := by decide +kernel
theorem dL_isNet_162 : decode cL_isNet 162 = .ok (.iload 4, 2) := by decide +kernel
theorem dL_isNet_164 : decode cL_isNet 164 = .ok (.invokevirtual 54, 3) := by decide +kernel
theorem dL_isNet_167 : decode cL_isNet 167 = .ok (.goto 4, 3) := by decide +kernel
theorem dL_isNet_170 : decode cL_isNet 170 = .ok (.iload_n 3, 1) := by decide +kernel
theorem dL_isNet_171 : decode cL_isNet 171 = .ok (.istore_n 3, 1) := by decide +kernel
theorem dL_isNet_172 : decode cL_isNet 172 = .ok (.iinc 4 1, 3) := by decide +kernel
theorem dL_isNet_175 : decode cL_isNet 175 = .ok (.goto (-31), 3) := by decide +kernel
theorem dL_isNet_178 : decode cL_isNet 178 = .ok (.iconst 1, 1) := by decide +kernel
theorem dL_isNet_179 : decode cL_isNet 179 = .ok (.iload_n 2, 1) := by decide +kernel
theorem dL_isNet_180 : decode cL_isNet 180 = .ok (.bipush 12, 2) := by decide +kernel
theorem dL_isNet_182 : decode cL_isNet 182 = .ok (.irem, 1) := by decide +kernel
theorem dL_isNet_183 : decode cL_isNet 183 = .ok (.iadd, 1) := by decide +kernel
theorem dL_isNet_184 : decode cL_isNet 184 = .ok (.istore 4, 2) := by decide +kernel
theorem dL_isNet_186 : decode cL_isNet 186 = .ok (.aload_n 0, 1) := by decide +kernel
theorem dL_isNet_187 : decode cL_isNet 187 = .ok (.bipush 11, 2) := by decide +kernel
theorem dL_isNet_189 : decode cL_isNet 189 = .ok (.iload 4, 2) := by decide +kernel
theorem dL_isNet_191 : decode cL_isNet 191 = .ok (.iconst 0, 1) := by decide +kernel
theorem dL_isNet_192 : decode cL_isNet 192 = .ok (.iconst 0, 1) := by decide +kernel
theorem dL_isNet_193 : decode cL_isNet 193 = .ok (.iconst 0, 1) := by decide +kernel
theorem dL_isNet_194 : decode cL_isNet 194 = .ok (.invokestatic 123, 3) := by decide +kernel
theorem dL_isNet_197 : decode cL_isNet 197 = .ok (.l2i, 1) := by decide +kernel
theorem dL_isNet_198 : decode cL_isNet 198 = .ok (.istore 5, 2) := by decide +kernel
theorem dL_isNet_200 : decode cL_isNet 200 = .ok (.iload 5, 2) := by decide +kernel
theorem dL_isNet_202 : decode cL_isNet 202 = .ok (.ifCond .lt 41, 3) := by decide +kernel
theorem dL_isNet_205 : decode cL_isNet 205 = .ok (.iload 5, 2) := by decide +kernel
theorem dL_isNet_207 : decode cL_isNet 207 = .ok (.iload 4, 2) := by decide +kernel
theorem dL_isNet_209 : decode cL_isNet 209 = .ok (.if_icmp .gt 34, 3) := by decide +kernel
theorem dL_isNet_212 : decode cL_isNet 212 = .ok (.iload 5, 2) := by decide +kernel
theorem dL_isNet_214 : decode cL_isNet 214 = .ok (.iload 4, 2) := by decide +kernel
theorem dL_isNet_216 : decode cL_isNet 216 = .ok (.if_icmp .eq 23, 3) := by decide +kernel
theorem dL_isNet_219 : decode cL_isNet 219 = .ok (.aload_n 0, 1) := by decide +kernel
theorem dL_isNet_220 : decode cL_isNet 220 = .ok (.bipush 11, 2) := by decide +kernel
theorem dL_isNet_222 : decode cL_isNet 222 = .ok (.iconst 1, 1) := by decide +kernel
theorem dL_isNet_223 : decode cL_isNet 223 = .ok (.iload_n 2, 1) := by decide +kernel
theorem dL_isNet_224 : decode cL_isNet 224 = .ok (.bipush 50, 2) := by decide +kernel
theorem dL_isNet_226 : decode cL_isNet 226 = .ok (.irem, 1) := by decide +kernel
theorem dL_isNet_227 : decode cL_isNet 227 = .ok (.iadd, 1) := by decide +kernel
theorem dL_isNet_228 : decode cL_isNet 228 = .ok (.iconst 0, 1) := by decide +kernel
theorem dL_isNet_229 : decode cL_isNet 229 = .ok (.iconst 0, 1) := by decide +kernel
theorem dL_isNet_230 : decode cL_isNet 230 = .ok (.iconst 0, 1) := by decide +kernel
theorem dL_isNet_231 : decode cL_isNet 231 = .ok (.invokestatic 123, 3) := by decide +kernel
theorem dL_isNet_234 : decode cL_isNet 234 = .ok (.lconst 0, 1) := by decide +kernel
theorem dL_isNet_235 : decode cL_isNet 235 = .ok (.lcmp, 1) := by decide +kernel
theorem dL_isNet_236 : decode cL_isNet 236 = .ok (.ifCond .ne 7, 3) := by decide +kernel
theorem dL_isNet_239 : decode cL_isNet 239 = .ok (.iconst 1, 1) := by decide +kernel
theorem dL_isNet_240 : decode cL_isNet 240 = .ok (.goto 4, 3) := by decide +kernel
theorem dL_isNet_243 : decode cL_isNet 243 = .ok (.iconst 0, 1) := by decide +kernel
theorem dL_isNet_244 : decode cL_isNet 244 = .ok (.istore 6, 2) := by decide +kernel
theorem dL_isNet_246 : decode cL_isNet 246 = .ok (.iconst 0, 1) := by decide +kernel
theorem dL_isNet_247 : decode cL_isNet 247 = .ok (.istore 7, 2) := by decide +kernel
theorem dL_isNet_249 : decode cL_isNet 249 = .ok (.iload 7, 2) := by decide +kernel
theorem dL_isNet_251 : decode cL_isNet 251 = .ok (.bipush 36, 2) := by decide +kernel
theorem dL_isNet_253 : decode cL_isNet 253 = .ok (.if_icmp .ge 31, 3) := by decide +kernel
theorem dL_isNet_256 : decode cL_isNet 256 = .ok (.iload 6, 2) := by decide +kernel
theorem dL_isNet_258 : decode cL_isNet 258 = .ok (.ifCond .eq 26, 3) := by decide +kernel
theorem dL_isNet_261 : decode cL_isNet 261 = .ok (.aload_n 0, 1) := by decide +kernel
theorem dL_isNet_262 : decode cL_isNet 262 = .ok (.iload 7, 2) := by decide +kernel
theorem dL_isNet_264 : decode cL_isNet 264 = .ok (.invokevirtual 54, 3) := by decide +kernel
theorem dL_isNet_267 : decode cL_isNet 267 = .ok (.iload_n 3, 1) := by decide +kernel
theorem dL_isNet_268 : decode cL_isNet 268 = .ok (.if_icmp .gt 7, 3) := by decide +kernel
theorem dL_isNet_271 : decode cL_isNet 271 = .ok (.iconst 1, 1) := by decide +kernel
theorem dL_isNet_272 : decode cL_isNet 272 = .ok (.goto 4, 3) := by decide +kernel
theorem dL_isNet_275 : decode cL_isNet 275 = .ok (.iconst 0, 1) := by decide +kernel
theorem dL_isNet_276 : decode cL_isNet 276 = .ok (.istore 6, 2) := by decide +kernel
theorem dL_isNet_278 : decode cL_isNet 278 = .ok (.iinc 7 1, 3) := by decide +kernel
theorem dL_isNet_281 : decode cL_isNet 281 = .ok (.goto (-32), 3) := by decide +kernel
theorem dL_isNet_284 : decode cL_isNet 284 = .ok (.iload 6, 2) := by decide +kernel
theorem dL_isNet_286 : decode cL_isNet 286 = .ok (.ireturn, 1) := by decide +kernel
theorem dL_law_0 : decode cL_law 0 = .ok (.new 10, 3) := by decide +kernel
theorem dL_law_3 : decode cL_law 3 = .ok (.dup, 1) := by decide +kernel
theorem dL_law_4 : decode cL_law 4 = .ok (.invokespecial 185, 3) := by decide +kernel
theorem dL_law_7 : decode cL_law 7 = .ok (.astore_n 1, 1) := by decide +kernel
theorem dL_law_8 : decode cL_law 8 = .ok (.bipush 9, 2) := by decide +kernel
theorem dL_law_10 : decode cL_law 10 = .ok (.newarray .int, 2) := by decide +kernel
theorem dL_law_12 : decode cL_law 12 = .ok (.astore_n 2, 1) := by decide +kernel
theorem dL_law_13 : decode cL_law 13 = .ok (.bipush 36, 2) := by decide +kernel
theorem dL_law_15 : decode cL_law 15 = .ok (.newarray .int, 2) := by decide +kernel
theorem dL_law_17 : decode cL_law 17 = .ok (.astore_n 3, 1) := by decide +kernel
theorem dL_law_18 : decode cL_law 18 = .ok (.bipush 8, 2) := by decide +kernel
theorem dL_law_20 : decode cL_law 20 = .ok (.newarray .long, 2) := by decide +kernel
theorem dL_law_22 : decode cL_law 22 = .ok (.astore 4, 2) := by decide +kernel
theorem dL_law_24 : decode cL_law 24 = .ok (.aload_n 1, 1) := by decide +kernel
theorem dL_law_25 : decode cL_law 25 = .ok (.aload_n 2, 1) := by decide +kernel
theorem dL_law_26 : decode cL_law 26 = .ok (.iconst 0, 1) := by decide +kernel
theorem dL_law_27 : decode cL_law 27 = .ok (.invokestatic 186, 3) := by decide +kernel
theorem dL_law_30 : decode cL_law 30 = .ok (.ifCond .eq 16, 3) := by decide +kernel
theorem dL_law_33 : decode cL_law 33 = .ok (.aload_n 1, 1) := by decide +kernel
theorem dL_law_34 : decode cL_law 34 = .ok (.aload_n 2, 1) := by decide +kernel
theorem dL_law_35 : decode cL_law 35 = .ok (.iconst 1, 1) := by decide +kernel
theorem dL_law_36 : decode cL_law 36 = .ok (.invokestatic 186, 3) := by decide +kernel
theorem dL_law_39 : decode cL_law 39 = .ok (.ifCond .eq 7, 3) := by decide +kernel
theorem dL_law_42 : decode cL_law 42 = .ok (.iconst 1, 1) := by decide +kernel
theorem dL_law_43 : decode cL_law 43 = .ok (.goto 4, 3) := by decide +kernel
theorem dL_law_46 : decode cL_law 46 = .ok (.iconst 0, 1) := by decide +kernel
theorem dL_law_47 : decode cL_law 47 = .ok (.istore 5, 2) := by decide +kernel
theorem dL_law_49 : decode cL_law 49 = .ok (.iconst 0, 1) := by decide +kernel
theorem dL_law_50 : decode cL_law 50 = .ok (.istore 6, 2) := by decide +kernel
theorem dL_law_52 : decode cL_law 52 = .ok (.iload 6, 2) := by decide +kernel
theorem dL_law_54 : decode cL_law 54 = .ok (.sipush 130, 3) := by decide +kernel
theorem dL_law_57 : decode cL_law 57 = .ok (.if_icmp .ge 223, 3) := by decide +kernel
theorem dL_law_60 : decode cL_law 60 = .ok (.iload 5, 2) := by decide +kernel
theorem dL_law_62 : decode cL_law 62 = .ok (.ifCond .eq 218, 3) := by decide +kernel
theorem dL_law_65 : decode cL_law 65 = .ok (.aload_n 0, 1) := by decide +kernel
theorem dL_law_66 : decode cL_law 66 = .ok (.iload 6, 2) := by decide +kernel
theorem dL_law_68 : decode cL_law 68 = .ok (.invokestatic 190, 3) := by decide +kernel
theorem dL_law_71 : decode cL_law 71 = .ok (.istore 7, 2) := by decide +kernel
theorem dL_law_73 : decode cL_law 73 = .ok (.iload 6, 2) := by decide +kernel
theorem dL_law_75 : decode cL_law 75 = .ok (.iconst 2, 1) := by decide +kernel
theorem dL_law_76 : decode cL_law 76 = .ok (.if_icmp .ge 7, 3) := by decide +kernel
theorem dL_law_79 : decode cL_law 79 = .ok (.iconst 0, 1) := by decide +kernel
theorem dL_law_80 : decode cL_law 80 = .ok (.goto 8, 3) := by decide +kernel
theorem dL_law_83 : decode cL_law 83 = .ok (.iload 7, 2) := by decide +kernel
theorem dL_law_85 : decode cL_law 85 = .ok (.bipush 40, 2) := by decide +kernel
theorem dL_law_87 : decode cL_law 87 = .ok (.irem, 1) := by decide +kernel
theorem dL_law_88 : decode cL_law 88 = .ok (.istore 8, 2) := by decide +kernel
theorem dL_law_90 : decode cL_law 90 = .ok (.iload 7, 2) := by decide +kernel
theorem dL_law_92 : decode cL_law 92 = .ok (.bipush 40, 2) := by decide +kernel
theorem dL_law_94 : decode cL_law 94 = .ok (.idiv, 1) := by decide +kernel
theorem dL_law_95 : decode cL_law 95 = .ok (.istore 9, 2) := by decide +kernel
theorem dL_law_97 : decode cL_law 97 = .ok (.iload 8, 2) := by decide +kernel
theorem dL_law_99 : decode cL_law 99 = .ok (.bipush 10, 2) := by decide +kernel
theorem dL_law_101 : decode cL_law 101 = .ok (.if_icmp .ge 27, 3) := by decide +kernel
theorem dL_law_104 : decode cL_law 104 = .ok (.aload_n 1, 1) := by decide +kernel
theorem dL_law_105 : decode cL_law 105 = .ok (.aload_n 2, 1) := by decide +kernel
theorem dL_law_106 : decode cL_law 106 = .ok (.aload_n 3, 1) := by decide +kernel
theorem dL_law_107 : decode cL_law 107 = .ok (.iload 8, 2) := by decide +kernel
theorem dL_law_109 : decode cL_law 109 = .ok (.bipush 8, 2) := by decide +kernel
theorem dL_law_111 : decode cL_law 111 = .ok (.if_icmp .ge 8, 3) := by decide +kernel
theorem dL_law_114 : decode cL_law 114 = .ok (.iload 8, 2) := by decide +kernel
theorem dL_law_116 : decode cL_law 116 = .ok (.goto 4, 3) := by decide +kernel
theorem dL_law_119 : decode cL_law 119 = .ok (.iconst 4, 1) := by decide +kernel
theorem dL_law_120 : decode cL_law 120 = .ok (.iload 9, 2) := by decide +kernel
theorem dL_law_122 : decode cL_law 122 = .ok (.invokestatic 193, 3) := by decide +kernel
theorem dL_law_125 : decode cL_law 125 = .ok (.goto 102, 3) := by decide +kernel
theorem dL_law_128 : decode cL_law 128 = .ok (.iload 8, 2) := by decide +kernel
theorem dL_law_130 : decode cL_law 130 = .ok (.bipush 17, 2) := by decide +kernel
theorem dL_law_132 : decode cL_law 132 = .ok (.if_icmp .ge 17, 3) := by decide +kernel
theorem dL_law_135 : decode cL_law 135 = .ok (.aload_n 1, 1) := by decide +kernel
theorem dL_law_136 : decode cL_law 136 = .ok (.iload 8, 2) := by decide +kernel
theorem dL_law_138 : decode cL_law 138 = .ok (.bipush 10, 2) := by decide +kernel
theorem dL_law_140 : decode cL_law 140 = .ok (.isub, 1) := by decide +kernel
theorem dL_law_141 : decode cL_law 141 = .ok (.iload 9, 2) := by decide +kernel
theorem dL_law_143 : decode cL_law 143 = .ok (.invokestatic 197, 3) := by decide +kernel
theorem dL_law_146 : decode cL_law 146 = .ok (.goto 81, 3) := by decide +kernel
theorem dL_law_149 : decode cL_law 149 = .ok (.iload 8, 2) := by decide +kernel
theorem dL_law_151 : decode cL_law 151 = .ok (.bipush 21, 2) := by decide +kernel
theorem dL_law_153 : decode cL_law 153 = .ok (.if_icmp .ge 27, 3) := by decide +kernel
theorem dL_law_156 : decode cL_law 156 = .ok (.aload_n 1, 1) := by decide +kernel
theorem dL_law_157 : decode cL_law 157 = .ok (.aload_n 2, 1) := by decide +kernel
theorem dL_law_158 : decode cL_law 158 = .ok (.aload 4, 2) := by decide +kernel
theorem dL_law_160 : decode cL_law 160 = .ok (.iload 8, 2) := by decide +kernel
theorem dL_law_162 : decode cL_law 162 = .ok (.bipush 19, 2) := by decide +kernel
theorem dL_law_164 : decode cL_law 164 = .ok (.if_icmp .ge 7, 3) := by decide +kernel
theorem dL_law_167 : decode cL_law 167 = .ok (.iconst 0, 1) := by decide +kernel
theorem dL_law_168 : decode cL_law 168 = .ok (.goto 4, 3) := by decide +kernel
theorem dL_law_171 : decode cL_law 171 = .ok (.iconst 1, 1) := by decide +kernel
theorem dL_law_172 : decode cL_law 172 = .ok (.iload 9, 2) := by decide +kernel
theorem dL_law_174 : decode cL_law 174 = .ok (.invokestatic 201, 3) := by decide +kernel
theorem dL_law_177 : decode cL_law 177 = .ok (.goto 50, 3) := by decide +kernel
theorem dL_law_180 : decode cL_law 180 = .ok (.iload 8, 2) := by decide +kernel
theorem dL_law_182 : decode cL_law 182 = .ok (.bipush 25, 2) := by decide +kernel
theorem dL_law_184 : decode cL_law 184 = .ok (.if_icmp .ge 13, 3) := by decide +kernel
theorem dL_law_187 : decode cL_law 187 = .ok (.aload_n 1, 1) := by decide +kernel
theorem dL_law_188 : decode cL_law 188 = .ok (.aload_n 2, 1) := by decide +kernel
theorem dL_law_189 : decode cL_law 189 = .ok (.iload 9, 2) := by decide +kernel
theorem dL_law_191 : decode cL_law 191 = .ok (.invokestatic 205, 3) := by decide +kernel
theorem dL_law_194 : decode cL_law 194 = .ok (.goto 33, 3) := by decide +kernel
theorem dL_law_197 : decode cL_law 197 = .ok (.aload_n 1, 1) := by decide +kernel
theorem dL_law_198 : decode cL_law 198 = .ok (.aload_n 2, 1) := by decide +kernel
theorem dL_law_199 : decode cL_law 199 = .ok (.iload 8, 2) := by decide +kernel
theorem dL_law_201 : decode cL_law 201 = .ok (.bipush 25, 2) := by decide +kernel
theorem dL_law_203 : decode cL_law 203 = .ok (.isub, 1) := by decide +kernel
theorem dL_law_204 : decode cL_law 204 = .ok (.bipush 12, 2) := by decide +kernel
theorem dL_law_206 : decode cL_law 206 = .ok (.if_icmp .le 11, 3) := by decide +kernel
theorem dL_law_209 : decode cL_law 209 = .ok (.iload 8, 2) := by decide +kernel
theorem dL_law_211 : decode cL_law 211 = .ok (.bipush 32, 2) := by decide +kernel
theorem dL_law_213 : decode cL_law 213 = .ok (.isub, 1) := by decide +kernel
theorem dL_law_214 : decode cL_law 214 = .ok (.goto 8, 3) := by decide +kernel
theorem dL_law_217 : decode cL_law 217 = .ok (.iload 8, 2) := by decide +kernel
theorem dL_law_219 : decode cL_law 219 = .ok (.bipush 25, 2) := by decide +kernel
theorem dL_law_221 : decode cL_law 221 = .ok (.isub, 1) := by decide +kernel
theorem dL_law_222 : decode cL_law 222 = .ok (.iload 9, 2) := by decide +kernel
theorem dL_law_224 : decode cL_law 224 = .ok (.invokestatic 208, 3) := by decide +kernel
theorem dL_law_227 : decode cL_law 227 = .ok (.istore 5, 2) := by decide +kernel
theorem dL_law_229 : decode cL_law 229 = .ok (.iload 5, 2) := by decide +kernel
theorem dL_law_231 : decode cL_law 231 = .ok (.ifCond .eq 40, 3) := by decide +kernel
theorem dL_law_234 : decode cL_law 234 = .ok (.aload_n 1, 1) := by decide +kernel
theorem dL_law_235 : decode cL_law 235 = .ok (.aload_n 2, 1) := by decide +kernel
theorem dL_law_236 : decode cL_law 236 = .ok (.aload_n 3, 1) := by decide +kernel
theorem dL_law_237 : decode cL_law 237 = .ok (.aload 4, 2) := by decide +kernel
theorem dL_law_239 : decode cL_law 239 = .ok (.iload 9, 2) := by decide +kernel
theorem dL_law_241 : decode cL_law 241 = .ok (.invokestatic 212, 3) := by decide +kernel
theorem dL_law_244 : decode cL_law 244 = .ok (.ifCond .eq 27, 3) := by decide +kernel
theorem dL_law_247 : decode cL_law 247 = .ok (.iload 6, 2) := by decide +kernel
theorem dL_law_249 : decode cL_law 249 = .ok (.bipush 45, 2) := by decide +kernel
theorem dL_law_251 : decode cL_law 251 = .ok (.irem, 1) := by decide +kernel
theorem dL_law_252 : decode cL_law 252 = .ok (.ifCond .gt 15, 3) := by decide +kernel
theorem dL_law_255 : decode cL_law 255 = .ok (.aload_n 1, 1) := by decide +kernel
theorem dL_law_256 : decode cL_law 256 = .ok (.aload_n 2, 1) := by decide +kernel
theorem dL_law_257 : decode cL_law 257 = .ok (.iload 7, 2) := by decide +kernel
theorem dL_law_259 : decode cL_law 259 = .ok (.iconst 3, 1) := by decide +kernel
theorem dL_law_260 : decode cL_law 260 = .ok (.idiv, 1) := by decide +kernel
theorem dL_law_261 : decode cL_law 261 = .ok (.invokestatic 186, 3) := by decide +kernel
theorem dL_law_264 : decode cL_law 264 = .ok (.ifCond .eq 7, 3) := by decide +kernel
theorem dL_law_267 : decode cL_law 267 = .ok (.iconst 1, 1) := by decide +kernel
theorem dL_law_268 : decode cL_law 268 = .ok (.goto 4, 3) := by decide +kernel
theorem dL_law_271 : decode cL_law 271 = .ok (.iconst 0, 1) := by decide +kernel
theorem dL_law_272 : decode cL_law 272 = .ok (.istore 5, 2) := by decide +kernel
theorem dL_law_274 : decode cL_law 274 = .ok (.iinc 6 1, 3) := by decide +kernel
theorem dL_law_277 : decode cL_law 277 = .ok (.goto (-225), 3) := by decide +kernel
theorem dL_law_280 : decode cL_law 280 = .ok (.iload 5, 2) := by decide +kernel
theorem dL_law_282 : decode cL_law 282 = .ok (.ireturn, 1) := by decide +kernel
