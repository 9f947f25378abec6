theorem dL_isSewn_0 : decode cL_isSewn 0 = .ok (.iload_n 3, 1) := by decide +kernel
theorem dL_isSewn_1 : decode cL_isSewn 1 = .ok (.ifCond .eq 9, 3) := by decide +kernel
theorem dL_isSewn_4 : decode cL_isSewn 4 = .ok (.aload_n 1, 1) := by decide +kernel
theorem dL_isSewn_5 : decode cL_isSewn 5 = .ok (.iconst 0, 1) := by decide +kernel
theorem dL_isSewn_6 : decode cL_isSewn 6 = .ok (.iaload, 1) := by decide +kernel
theorem dL_isSewn_7 : decode cL_isSewn 7 = .ok (.ifCond .ne 92, 3) := by decide +kernel
theorem dL_isSewn_10 : decode cL_isSewn 10 = .ok (.aload_n 0, 1) := by decide +kernel
theorem dL_isSewn_11 : decode cL_isSewn 11 = .ok (.iconst 0, 1) := by decide +kernel
theorem dL_isSewn_12 : decode cL_isSewn 12 = .ok (.iconst 1, 1) := by decide +kernel
theorem dL_isSewn_13 : decode cL_isSewn 13 = .ok (.iload 4, 2) := by decide +kernel
theorem dL_isSewn_15 : decode cL_isSewn 15 = .ok (.sipush 5000, 3) := by decide +kernel
theorem dL_isSewn_18 : decode cL_isSewn 18 = .ok (.irem, 1) := by decide +kernel
theorem dL_isSewn_19 : decode cL_isSewn 19 = .ok (.iadd, 1) := by decide +kernel
theorem dL_isSewn_20 : decode cL_isSewn 20 = .ok (.iconst 1, 1) := by decide +kernel
theorem dL_isSewn_21 : decode cL_isSewn 21 = .ok (.iload 4, 2) := by decide +kernel
theorem dL_isSewn_23 : decode cL_isSewn 23 = .ok (.iconst 3, 1) := by decide +kernel
theorem dL_isSewn_24 : decode cL_isSewn 24 = .ok (.idiv, 1) := by decide +kernel
theorem dL_isSewn_25 : decode cL_isSewn 25 = .ok (.sipush 5000, 3) := by decide +kernel
theorem dL_isSewn_28 : decode cL_isSewn 28 = .ok (.irem, 1) := by decide +kernel
theorem dL_isSewn_29 : decode cL_isSewn 29 = .ok (.iadd, 1) := by decide +kernel
theorem dL_isSewn_30 : decode cL_isSewn 30 = .ok (.iconst 1, 1) := by decide +kernel
theorem dL_isSewn_31 : decode cL_isSewn 31 = .ok (.iload 4, 2) := by decide +kernel
theorem dL_isSewn_33 : decode cL_isSewn 33 = .ok (.bipush 7, 2) := by decide +kernel
theorem dL_isSewn_35 : decode cL_isSewn 35 = .ok (.idiv, 1) := by decide +kernel
theorem dL_isSewn_36 : decode cL_isSewn 36 = .ok (.sipush 5000, 3) := by decide +kernel
theorem dL_isSewn_39 : decode cL_isSewn 39 = .ok (.irem, 1) := by decide +kernel
theorem dL_isSewn_40 : decode cL_isSewn 40 = .ok (.iadd, 1) := by decide +kernel
theorem dL_isSewn_41 : decode cL_isSewn 41 = .ok (.iconst 0, 1) := by decide +kernel
theorem dL_isSewn_42 : decode cL_isSewn 42 = .ok (.invokestatic 123, 3) := by decide +kernel
theorem dL_isSewn_45 : decode cL_isSewn 45 = .ok (.lstore 5, 2) := by decide +kernel
theorem dL_isSewn_47 : decode cL_isSewn 47 = .ok (.lload 5, 2) := by decide +kernel
theorem dL_isSewn_49 : decode cL_isSewn 49 = .ok (.aload_n 1, 1) := by decide +kernel
theorem dL_isSewn_50 : decode cL_isSewn 50 = .ok (.iconst 0, 1) := by decide +kernel
theorem dL_isSewn_51 : decode cL_isSewn 51 = .ok (.iaload, 1) := by decide +kernel
theorem dL_isSewn_52 : decode cL_isSewn 52 = .ok (.bipush 6, 2) := by decide +kernel
theorem dL_isSewn_54 : decode cL_isSewn 54 = .ok (.if_icmp .ne 9, 3) := by decide +kernel
theorem dL_isSewn_57 : decode cL_isSewn 57 = .ok (.ldc2_w 113, 3) := by decide +kernel
theorem dL_isSewn_60 : decode cL_isSewn 60 = .ok (.goto 7, 3) := by decide +kernel
theorem dL_isSewn_63 : decode cL_isSewn 63 = .ok (.aload_n 1, 1) := by decide +kernel
theorem dL_isSewn_64 : decode cL_isSewn 64 = .ok (.iconst 0, 1) := by decide +kernel
theorem dL_isSewn_65 : decode cL_isSewn 65 = .ok (.iaload, 1) := by decide +kernel
theorem dL_isSewn_66 : decode cL_isSewn 66 = .ok (.i2l, 1) := by decide +kernel
theorem dL_isSewn_67 : decode cL_isSewn 67 = .ok (.lcmp, 1) := by decide +kernel
theorem dL_isSewn_68 : decode cL_isSewn 68 = .ok (.ifCond .ne 7, 3) := by decide +kernel
theorem dL_isSewn_71 : decode cL_isSewn 71 = .ok (.iconst 1, 1) := by decide +kernel
theorem dL_isSewn_72 : decode cL_isSewn 72 = .ok (.goto 4, 3) := by decide +kernel
theorem dL_isSewn_75 : decode cL_isSewn 75 = .ok (.iconst 0, 1) := by decide +kernel
theorem dL_isSewn_76 : decode cL_isSewn 76 = .ok (.istore 7, 2) := by decide +kernel
theorem dL_isSewn_78 : decode cL_isSewn 78 = .ok (.aload_n 1, 1) := by decide +kernel
theorem dL_isSewn_79 : decode cL_isSewn 79 = .ok (.iconst 0, 1) := by decide +kernel
theorem dL_isSewn_80 : decode cL_isSewn 80 = .ok (.dup2, 1) := by decide +kernel
theorem dL_isSewn_81 : decode cL_isSewn 81 = .ok (.iaload, 1) := by decide +kernel
theorem dL_isSewn_82 : decode cL_isSewn 82 = .ok (.lload 5, 2) := by decide +kernel
theorem dL_isSewn_84 : decode cL_isSewn 84 = .ok (.lconst 0, 1) := by decide +kernel
theorem dL_isSewn_85 : decode cL_isSewn 85 = .ok (.lcmp, 1) := by decide +kernel
theorem dL_isSewn_86 : decode cL_isSewn 86 = .ok (.ifCond .lt 7, 3) := by decide +kernel
theorem dL_isSewn_89 : decode cL_isSewn 89 = .ok (.iconst 1, 1) := by decide +kernel
theorem dL_isSewn_90 : decode cL_isSewn 90 = .ok (.goto 4, 3) := by decide +kernel
theorem dL_isSewn_93 : decode cL_isSewn 93 = .ok (.iconst 0, 1) := by decide +kernel
theorem dL_isSewn_94 : decode cL_isSewn 94 = .ok (.iadd, 1) := by decide +kernel
theorem dL_isSewn_95 : decode cL_isSewn 95 = .ok (.iastore, 1) := by decide +kernel
theorem dL_isSewn_96 : decode cL_isSewn 96 = .ok (.iload 7, 2) := by decide +kernel
theorem dL_isSewn_98 : decode cL_isSewn 98 = .ok (.ireturn, 1) := by decide +kernel
theorem dL_isSewn_99 : decode cL_isSewn 99 = .ok (.iload 4, 2) := by decide +kernel
theorem dL_isSewn_101 : decode cL_isSewn 101 = .ok (.aload_n 1, 1) := by decide +kernel
theorem dL_isSewn_102 : decode cL_isSewn 102 = .ok (.iconst 0, 1) := by decide +kernel
theorem dL_isSewn_103 : decode cL_isSewn 103 = .ok (.iaload, 1) := by decide +kernel
theorem dL_isSewn_104 : decode cL_isSewn 104 = .ok (.irem, 1) := by decide +kernel
theorem dL_isSewn_105 : decode cL_isSewn 105 = .ok (.istore 5, 2) := by decide +kernel
theorem dL_isSewn_107 : decode cL_isSewn 107 = .ok (.iload 4, 2) := by decide +kernel
theorem dL_isSewn_109 : decode cL_isSewn 109 = .ok (.bipush 6, 2) := by decide +kernel
theorem dL_isSewn_111 : decode cL_isSewn 111 = .ok (.idiv, 1) := by decide +kernel
theorem dL_isSewn_112 : decode cL_isSewn 112 = .ok (.istore 6, 2) := by decide +kernel
theorem dL_isSewn_114 : decode cL_isSewn 114 = .ok (.iload_n 3, 1) := by decide +kernel
theorem dL_isSewn_115 : decode cL_isSewn 115 = .ok (.iconst 1, 1) := by decide +kernel
theorem dL_isSewn_116 : decode cL_isSewn 116 = .ok (.if_icmp .ne 112, 3) := by decide +kernel
theorem dL_isSewn_119 : decode cL_isSewn 119 = .ok (.aload_n 1, 1) := by decide +kernel
theorem dL_isSewn_120 : decode cL_isSewn 120 = .ok (.iconst 1, 1) := by decide +kernel
theorem dL_isSewn_121 : decode cL_isSewn 121 = .ok (.iaload, 1) := by decide +kernel
theorem dL_isSewn_122 : decode cL_isSewn 122 = .ok (.ifCond .ne 7, 3) := by decide +kernel
theorem dL_isSewn_125 : decode cL_isSewn 125 = .ok (.lconst 0, 1) := by decide +kernel
theorem dL_isSewn_126 : decode cL_isSewn 126 = .ok (.goto 13, 3) := by decide +kernel
theorem dL_isSewn_129 : decode cL_isSewn 129 = .ok (.aload_n 0, 1) := by decide +kernel
theorem dL_isSewn_130 : decode cL_isSewn 130 = .ok (.iload 6, 2) := by decide +kernel
theorem dL_isSewn_132 : decode cL_isSewn 132 = .ok (.aload_n 1, 1) := by decide +kernel
theorem dL_isSewn_133 : decode cL_isSewn 133 = .ok (.iconst 1, 1) := by decide +kernel
theorem dL_isSewn_134 : decode cL_isSewn 134 = .ok (.iaload, 1) := by decide +kernel
theorem dL_isSewn_135 : decode cL_isSewn 135 = .ok (.irem, 1) := by decide +kernel
theorem dL_isSewn_136 : decode cL_isSewn 136 = .ok (.invokevirtual 23, 3) := by decide +kernel
theorem dL_isSewn_139 : decode cL_isSewn 139 = .ok (.lstore 7, 2) := by decide +kernel
theorem dL_isSewn_141 : decode cL_isSewn 141 = .ok (.aload_n 0, 1) := by decide +kernel
theorem dL_isSewn_142 : decode cL_isSewn 142 = .ok (.iconst 1, 1) := by decide +kernel
theorem dL_isSewn_143 : decode cL_isSewn 143 = .ok (.iload 5, 2) := by decide +kernel
theorem dL_isSewn_145 : decode cL_isSewn 145 = .ok (.iconst 1, 1) := by decide +kernel
theorem dL_isSewn_146 : decode cL_isSewn 146 = .ok (.iload 6, 2) := by decide +kernel
theorem dL_isSewn_148 : decode cL_isSewn 148 = .ok (.sipush 300, 3) := by decide +kernel
theorem dL_isSewn_151 : decode cL_isSewn 151 = .ok (.irem, 1) := by decide +kernel
theorem dL_isSewn_152 : decode cL_isSewn 152 = .ok (.iadd, 1) := by decide +kernel
theorem dL_isSewn_153 : decode cL_isSewn 153 = .ok (.iconst 0, 1) := by decide +kernel
theorem dL_isSewn_154 : decode cL_isSewn 154 = .ok (.iconst 0, 1) := by decide +kernel
theorem dL_isSewn_155 : decode cL_isSewn 155 = .ok (.invokestatic 123, 3) := by decide +kernel
theorem dL_isSewn_158 : decode cL_isSewn 158 = .ok (.lstore 9, 2) := by decide +kernel
theorem dL_isSewn_160 : decode cL_isSewn 160 = .ok (.lload 9, 2) := by decide +kernel
theorem dL_isSewn_162 : decode cL_isSewn 162 = .ok (.lconst 0, 1) := by decide +kernel
theorem dL_isSewn_163 : decode cL_isSewn 163 = .ok (.lcmp, 1) := by decide +kernel
theorem dL_isSewn_164 : decode cL_isSewn 164 = .ok (.ifCond .le 62, 3) := by decide +kernel
theorem dL_isSewn_167 : decode cL_isSewn 167 = .ok (.lload 9, 2) := by decide +kernel
theorem dL_isSewn_169 : decode cL_isSewn 169 = .ok (.ldc2_w 162, 3) := by decide +kernel
theorem dL_isSewn_172 : decode cL_isSewn 172 = .ok (.lcmp, 1) := by decide +kernel
theorem dL_isSewn_173 : decode cL_isSewn 173 = .ok (.ifCond .gt 53, 3) := by decide +kernel
theorem dL_isSewn_176 : decode cL_isSewn 176 = .ok (.aload_n 1, 1) := by decide +kernel
theorem dL_isSewn_177 : decode cL_isSewn 177 = .ok (.iconst 1, 1) := by decide +kernel
theorem dL_isSewn_178 : decode cL_isSewn 178 = .ok (.iaload, 1) := by decide +kernel
theorem dL_isSewn_179 : decode cL_isSewn 179 = .ok (.ifCond .eq 43, 3) := by decide +kernel
theorem dL_isSewn_182 : decode cL_isSewn 182 = .ok (.aload_n 0, 1) := by decide +kernel
theorem dL_isSewn_183 : decode cL_isSewn 183 = .ok (.iload 6, 2) := by decide +kernel
theorem dL_isSewn_185 : decode cL_isSewn 185 = .ok (.aload_n 1, 1) := by decide +kernel
theorem dL_isSewn_186 : decode cL_isSewn 186 = .ok (.iconst 1, 1) := by decide +kernel
theorem dL_isSewn_187 : decode cL_isSewn 187 = .ok (.iaload, 1) := by decide +kernel
theorem dL_isSewn_188 : decode cL_isSewn 188 = .ok (.irem, 1) := by decide +kernel
theorem dL_isSewn_189 : decode cL_isSewn 189 = .ok (.invokevirtual 23, 3) := by decide +kernel
theorem dL_isSewn_192 : decode cL_isSewn 192 = .ok (.lload 7, 2) := by decide +kernel
theorem dL_isSewn_194 : decode cL_isSewn 194 = .ok (.lcmp, 1) := by decide +kernel
theorem dL_isSewn_195 : decode cL_isSewn 195 = .ok (.ifCond .gt 31, 3) := by decide +kernel
theorem dL_isSewn_198 : decode cL_isSewn 198 = .ok (.aload_n 0, 1) := by decide +kernel
theorem dL_isSewn_199 : decode cL_isSewn 199 = .ok (.iload 6, 2) := by decide +kernel
theorem dL_isSewn_201 : decode cL_isSewn 201 = .ok (.aload_n 1, 1) := by decide +kernel
theorem dL_isSewn_202 : decode cL_isSewn 202 = .ok (.iconst 1, 1) := by decide +kernel
theorem dL_isSewn_203 : decode cL_isSewn 203 = .ok (.iaload, 1) := by decide +kernel
theorem dL_isSewn_204 : decode cL_isSewn 204 = .ok (.irem, 1) := by decide +kernel
theorem dL_isSewn_205 : decode cL_isSewn 205 = .ok (.invokevirtual 23, 3) := by decide +kernel
theorem dL_isSewn_208 : decode cL_isSewn 208 = .ok (.ldc2_w 164, 3) := by decide +kernel
theorem dL_isSewn_211 : decode cL_isSewn 211 = .ok (.lmul, 1) := by decide +kernel
theorem dL_isSewn_212 : decode cL_isSewn 212 = .ok (.ldc2_w 166, 3) := by decide +kernel
theorem dL_isSewn_215 : decode cL_isSewn 215 = .ok (.ladd, 1) := by decide +kernel
theorem dL_isSewn_216 : decode cL_isSewn 216 = .ok (.lload 7, 2) := by decide +kernel
theorem dL_isSewn_218 : decode cL_isSewn 218 = .ok (.lcmp, 1) := by decide +kernel
theorem dL_isSewn_219 : decode cL_isSewn 219 = .ok (.ifCond .lt 7, 3) := by decide +kernel
theorem dL_isSewn_222 : decode cL_isSewn 222 = .ok (.iconst 1, 1) := by decide +kernel
theorem dL_isSewn_223 : decode cL_isSewn 223 = .ok (.goto 4, 3) := by decide +kernel
theorem dL_isSewn_226 : decode cL_isSewn 226 = .ok (.iconst 0, 1) := by decide +kernel
theorem dL_isSewn_227 : decode cL_isSewn 227 = .ok (.ireturn, 1) := by decide +kernel
theorem dL_isSewn_228 : decode cL_isSewn 228 = .ok (.iload_n 3, 1) := by decide +kernel
theorem dL_isSewn_229 : decode cL_isSewn 229 = .ok (.iconst 4, 1) := by decide +kernel
theorem dL_isSewn_230 : decode cL_isSewn 230 = .ok (.if_icmp .lt 10, 3) := by decide +kernel
theorem dL_isSewn_233 : decode cL_isSewn 233 = .ok (.aload_n 1, 1) := by decide +kernel
theorem dL_isSewn_234 : decode cL_isSewn 234 = .ok (.iconst 1, 1) := by decide +kernel
theorem dL_isSewn_235 : decode cL_isSewn 235 = .ok (.iaload, 1) := by decide +kernel
theorem dL_isSewn_236 : decode cL_isSewn 236 = .ok (.iconst 2, 1) := by decide +kernel
theorem dL_isSewn_237 : decode cL_isSewn 237 = .ok (.if_icmp .ge 160, 3) := by decide +kernel
theorem dL_isSewn_240 : decode cL_isSewn 240 = .ok (.iload 6, 2) := by decide +kernel
theorem dL_isSewn_242 : decode cL_isSewn 242 = .ok (.iconst 3, 1) := by decide +kernel
theorem dL_isSewn_243 : decode cL_isSewn 243 = .ok (.irem, 1) := by decide +kernel
theorem dL_isSewn_244 : decode cL_isSewn 244 = .ok (.istore 7, 2) := by decide +kernel
theorem dL_isSewn_246 : decode cL_isSewn 246 = .ok (.iconst 1, 1) := by decide +kernel
