theorem dX9_init_0 : decode cX9_init 0 = .ok (.aload_n 0, 1) := by decide +kernel
theorem dX9_init_1 : decode cX9_init 1 = .ok (.invokespecial 1, 3) := by decide +kernel
theorem dX9_init_4 : decode cX9_init 4 = .ok (.aload_n 0, 1) := by decide +kernel
theorem dX9_init_5 : decode cX9_init 5 = .ok (.bipush 18, 2) := by decide +kernel
theorem dX9_init_7 : decode cX9_init 7 = .ok (.newarray .int, 2) := by decide +kernel
theorem dX9_init_9 : decode cX9_init 9 = .ok (.putfield 7, 3) := by decide +kernel
theorem dX9_init_12 : decode cX9_init 12 = .ok (.aload_n 0, 1) := by decide +kernel
theorem dX9_init_13 : decode cX9_init 13 = .ok (.bipush 6, 2) := by decide +kernel
theorem dX9_init_15 : decode cX9_init 15 = .ok (.newarray .int, 2) := by decide +kernel
theorem dX9_init_17 : decode cX9_init 17 = .ok (.putfield 13, 3) := by decide +kernel
theorem dX9_init_20 : decode cX9_init 20 = .ok (.aload_n 0, 1) := by decide +kernel
theorem dX9_init_21 : decode cX9_init 21 = .ok (.bipush 6, 2) := by decide +kernel
theorem dX9_init_23 : decode cX9_init 23 = .ok (.newarray .boolean, 2) := by decide +kernel
theorem dX9_init_25 : decode cX9_init 25 = .ok (.putfield 16, 3) := by decide +kernel
theorem dX9_init_28 : decode cX9_init 28 = .ok (.aload_n 0, 1) := by decide +kernel
theorem dX9_init_29 : decode cX9_init 29 = .ok (.bipush 12, 2) := by decide +kernel
theorem dX9_init_31 : decode cX9_init 31 = .ok (.newarray .int, 2) := by decide +kernel
theorem dX9_init_33 : decode cX9_init 33 = .ok (.putfield 20, 3) := by decide +kernel
theorem dX9_init_36 : decode cX9_init 36 = .ok (.aload_n 0, 1) := by decide +kernel
theorem dX9_init_37 : decode cX9_init 37 = .ok (.bipush 12, 2) := by decide +kernel
theorem dX9_init_39 : decode cX9_init 39 = .ok (.newarray .int, 2) := by decide +kernel
theorem dX9_init_41 : decode cX9_init 41 = .ok (.putfield 23, 3) := by decide +kernel
theorem dX9_init_44 : decode cX9_init 44 = .ok (.aload_n 0, 1) := by decide +kernel
theorem dX9_init_45 : decode cX9_init 45 = .ok (.bipush 12, 2) := by decide +kernel
theorem dX9_init_47 : decode cX9_init 47 = .ok (.newarray .int, 2) := by decide +kernel
theorem dX9_init_49 : decode cX9_init 49 = .ok (.putfield 26, 3) := by decide +kernel
theorem dX9_init_52 : decode cX9_init 52 = .ok (.aload_n 0, 1) := by decide +kernel
theorem dX9_init_53 : decode cX9_init 53 = .ok (.bipush 12, 2) := by decide +kernel
theorem dX9_init_55 : decode cX9_init 55 = .ok (.newarray .int, 2) := by decide +kernel
theorem dX9_init_57 : decode cX9_init 57 = .ok (.putfield 29, 3) := by decide +kernel
theorem dX9_init_60 : decode cX9_init 60 = .ok (.aload_n 0, 1) := by decide +kernel
theorem dX9_init_61 : decode cX9_init 61 = .ok (.bipush 30, 2) := by decide +kernel
theorem dX9_init_63 : decode cX9_init 63 = .ok (.newarray .int, 2) := by decide +kernel
theorem dX9_init_65 : decode cX9_init 65 = .ok (.putfield 32, 3) := by decide +kernel
theorem dX9_init_68 : decode cX9_init 68 = .ok (.aload_n 0, 1) := by decide +kernel
theorem dX9_init_69 : decode cX9_init 69 = .ok (.bipush 30, 2) := by decide +kernel
theorem dX9_init_71 : decode cX9_init 71 = .ok (.newarray .int, 2) := by decide +kernel
theorem dX9_init_73 : decode cX9_init 73 = .ok (.putfield 35, 3) := by decide +kernel
theorem dX9_init_76 : decode cX9_init 76 = .ok (.aload_n 0, 1) := by decide +kernel
theorem dX9_init_77 : decode cX9_init 77 = .ok (.bipush 30, 2) := by decide +kernel
theorem dX9_init_79 : decode cX9_init 79 = .ok (.newarray .int, 2) := by decide +kernel
theorem dX9_init_81 : decode cX9_init 81 = .ok (.putfield 38, 3) := by decide +kernel
theorem dX9_init_84 : decode cX9_init 84 = .ok (.aload_n 0, 1) := by decide +kernel
theorem dX9_init_85 : decode cX9_init 85 = .ok (.bipush 30, 2) := by decide +kernel
theorem dX9_init_87 : decode cX9_init 87 = .ok (.newarray .boolean, 2) := by decide +kernel
theorem dX9_init_89 : decode cX9_init 89 = .ok (.putfield 41, 3) := by decide +kernel
theorem dX9_init_92 : decode cX9_init 92 = .ok (.aload_n 0, 1) := by decide +kernel
theorem dX9_init_93 : decode cX9_init 93 = .ok (.bipush 12, 2) := by decide +kernel
theorem dX9_init_95 : decode cX9_init 95 = .ok (.newarray .long, 2) := by decide +kernel
theorem dX9_init_97 : decode cX9_init 97 = .ok (.putfield 44, 3) := by decide +kernel
theorem dX9_init_100 : decode cX9_init 100 = .ok (.aload_n 0, 1) := by decide +kernel
theorem dX9_init_101 : decode cX9_init 101 = .ok (.bipush 36, 2) := by decide +kernel
theorem dX9_init_103 : decode cX9_init 103 = .ok (.newarray .int, 2) := by decide +kernel
theorem dX9_init_105 : decode cX9_init 105 = .ok (.putfield 48, 3) := by decide +kernel
theorem dX9_init_108 : decode cX9_init 108 = .ok (.aload_n 0, 1) := by decide +kernel
theorem dX9_init_109 : decode cX9_init 109 = .ok (.bipush 36, 2) := by decide +kernel
theorem dX9_init_111 : decode cX9_init 111 = .ok (.newarray .int, 2) := by decide +kernel
theorem dX9_init_113 : decode cX9_init 113 = .ok (.putfield 51, 3) := by decide +kernel
theorem dX9_init_116 : decode cX9_init 116 = .ok (.aload_n 0, 1) := by decide +kernel
theorem dX9_init_117 : decode cX9_init 117 = .ok (.bipush 36, 2) := by decide +kernel
theorem dX9_init_119 : decode cX9_init 119 = .ok (.newarray .boolean, 2) := by decide +kernel
theorem dX9_init_121 : decode cX9_init 121 = .ok (.putfield 54, 3) := by decide +kernel
theorem dX9_init_124 : decode cX9_init 124 = .ok (.aload_n 0, 1) := by decide +kernel
theorem dX9_init_125 : decode cX9_init 125 = .ok (.bipush 8, 2) := by decide +kernel
theorem dX9_init_127 : decode cX9_init 127 = .ok (.newarray .long, 2) := by decide +kernel
theorem dX9_init_129 : decode cX9_init 129 = .ok (.putfield 57, 3) := by decide +kernel
theorem dX9_init_132 : decode cX9_init 132 = .ok (.aload_n 0, 1) := by decide +kernel
theorem dX9_init_133 : decode cX9_init 133 = .ok (.bipush 8, 2) := by decide +kernel
theorem dX9_init_135 : decode cX9_init 135 = .ok (.newarray .int, 2) := by decide +kernel
theorem dX9_init_137 : decode cX9_init 137 = .ok (.putfield 60, 3) := by decide +kernel
theorem dX9_init_140 : decode cX9_init 140 = .ok (.aload_n 0, 1) := by decide +kernel
theorem dX9_init_141 : decode cX9_init 141 = .ok (.bipush 8, 2) := by decide +kernel
theorem dX9_init_143 : decode cX9_init 143 = .ok (.newarray .boolean, 2) := by decide +kernel
theorem dX9_init_145 : decode cX9_init 145 = .ok (.putfield 63, 3) := by decide +kernel
theorem dX9_init_148 : decode cX9_init 148 = .ok (.aload_n 0, 1) := by decide +kernel
theorem dX9_init_149 : decode cX9_init 149 = .ok (.bipush 8, 2) := by decide +kernel
theorem dX9_init_151 : decode cX9_init 151 = .ok (.newarray .long, 2) := by decide +kernel
theorem dX9_init_153 : decode cX9_init 153 = .ok (.putfield 66, 3) := by decide +kernel
theorem dX9_init_156 : decode cX9_init 156 = .ok (.aload_n 0, 1) := by decide +kernel
theorem dX9_init_157 : decode cX9_init 157 = .ok (.bipush 6, 2) := by decide +kernel
theorem dX9_init_159 : decode cX9_init 159 = .ok (.newarray .int, 2) := by decide +kernel
theorem dX9_init_161 : decode cX9_init 161 = .ok (.putfield 69, 3) := by decide +kernel
theorem dX9_init_164 : decode cX9_init 164 = .ok (.aload_n 0, 1) := by decide +kernel
theorem dX9_init_165 : decode cX9_init 165 = .ok (.bipush 6, 2) := by decide +kernel
theorem dX9_init_167 : decode cX9_init 167 = .ok (.newarray .int, 2) := by decide +kernel
theorem dX9_init_169 : decode cX9_init 169 = .ok (.putfield 72, 3) := by decide +kernel
theorem dX9_init_172 : decode cX9_init 172 = .ok (.aload_n 0, 1) := by decide +kernel
theorem dX9_init_173 : decode cX9_init 173 = .ok (.bipush 48, 2) := by decide +kernel
theorem dX9_init_175 : decode cX9_init 175 = .ok (.newarray .int, 2) := by decide +kernel
theorem dX9_init_177 : decode cX9_init 177 = .ok (.putfield 75, 3) := by decide +kernel
theorem dX9_init_180 : decode cX9_init 180 = .ok (.aload_n 0, 1) := by decide +kernel
theorem dX9_init_181 : decode cX9_init 181 = .ok (.bipush 6, 2) := by decide +kernel
theorem dX9_init_183 : decode cX9_init 183 = .ok (.newarray .int, 2) := by decide +kernel
theorem dX9_init_185 : decode cX9_init 185 = .ok (.putfield 78, 3) := by decide +kernel
theorem dX9_init_188 : decode cX9_init 188 = .ok (.aload_n 0, 1) := by decide +kernel
theorem dX9_init_189 : decode cX9_init 189 = .ok (.bipush 6, 2) := by decide +kernel
theorem dX9_init_191 : decode cX9_init 191 = .ok (.newarray .int, 2) := by decide +kernel
theorem dX9_init_193 : decode cX9_init 193 = .ok (.putfield 81, 3) := by decide +kernel
theorem dX9_init_196 : decode cX9_init 196 = .ok (.aload_n 0, 1) := by decide +kernel
theorem dX9_init_197 : decode cX9_init 197 = .ok (.bipush 6, 2) := by decide +kernel
theorem dX9_init_199 : decode cX9_init 199 = .ok (.newarray .int, 2) := by decide +kernel
theorem dX9_init_201 : decode cX9_init 201 = .ok (.putfield 84, 3) := by decide +kernel
theorem dX9_init_204 : decode cX9_init 204 = .ok (.aload_n 0, 1) := by decide +kernel
theorem dX9_init_205 : decode cX9_init 205 = .ok (.bipush 6, 2) := by decide +kernel
theorem dX9_init_207 : decode cX9_init 207 = .ok (.newarray .int, 2) := by decide +kernel
theorem dX9_init_209 : decode cX9_init 209 = .ok (.putfield 87, 3) := by decide +kernel
theorem dX9_init_212 : decode cX9_init 212 = .ok (.aload_n 0, 1) := by decide +kernel
theorem dX9_init_213 : decode cX9_init 213 = .ok (.bipush 6, 2) := by decide +kernel
theorem dX9_init_215 : decode cX9_init 215 = .ok (.newarray .int, 2) := by decide +kernel
theorem dX9_init_217 : decode cX9_init 217 = .ok (.putfield 90, 3) := by decide +kernel
theorem dX9_init_220 : decode cX9_init 220 = .ok (.aload_n 0, 1) := by decide +kernel
theorem dX9_init_221 : decode cX9_init 221 = .ok (.bipush 6, 2) := by decide +kernel
theorem dX9_init_223 : decode cX9_init 223 = .ok (.newarray .int, 2) := by decide +kernel
theorem dX9_init_225 : decode cX9_init 225 = .ok (.putfield 93, 3) := by decide +kernel
theorem dX9_init_228 : decode cX9_init 228 = .ok (.iconst 0, 1) := by decide +kernel
theorem dX9_init_229 : decode cX9_init 229 = .ok (.istore_n 1, 1) := by decide +kernel
theorem dX9_init_230 : decode cX9_init 230 = .ok (.iload_n 1, 1) := by decide +kernel
theorem dX9_init_231 : decode cX9_init 231 = .ok (.bipush 36, 2) := by decide +kernel
theorem dX9_init_233 : decode cX9_init 233 = .ok (.if_icmp .ge 48, 3) := by decide +kernel
theorem dX9_init_236 : decode cX9_init 236 = .ok (.iload_n 1, 1) := by decide +kernel
theorem dX9_init_237 : decode cX9_init 237 = .ok (.bipush 6, 2) := by decide +kernel
theorem dX9_init_239 : decode cX9_init 239 = .ok (.idiv, 1) := by decide +kernel
theorem dX9_init_240 : decode cX9_init 240 = .ok (.istore_n 2, 1) := by decide +kernel
theorem dX9_init_241 : decode cX9_init 241 = .ok (.iload_n 1, 1) := by decide +kernel
theorem dX9_init_242 : decode cX9_init 242 = .ok (.bipush 6, 2) := by decide +kernel
theorem dX9_init_244 : decode cX9_init 244 = .ok (.irem, 1) := by decide +kernel
theorem dX9_init_245 : decode cX9_init 245 = .ok (.istore_n 3, 1) := by decide +kernel
theorem dX9_init_246 : decode cX9_init 246 = .ok (.aload_n 0, 1) := by decide +kernel
theorem dX9_init_247 : decode cX9_init 247 = .ok (.getfield 54, 3) := by decide +kernel
theorem dX9_init_250 : decode cX9_init 250 = .ok (.iload_n 1, 1) := by decide +kernel
theorem dX9_init_251 : decode cX9_init 251 = .ok (.iload_n 2, 1) := by decide +kernel
theorem dX9_init_252 : decode cX9_init 252 = .ok (.ifCond .eq 17, 3) := by decide +kernel
theorem dX9_init_255 : decode cX9_init 255 = .ok (.iload_n 2, 1) := by decide +kernel
theorem dX9_init_256 : decode cX9_init 256 = .ok (.iconst 5, 1) := by decide +kernel
theorem dX9_init_257 : decode cX9_init 257 = .ok (.if_icmp .eq 12, 3) := by decide +kernel
theorem dX9_init_260 : decode cX9_init 260 = .ok (.iload_n 3, 1) := by decide +kernel
theorem dX9_init_261 : decode cX9_init 261 = .ok (.ifCond .eq 8, 3) := by decide +kernel
theorem dX9_init_264 : decode cX9_init 264 = .ok (.iload_n 3, 1) := by decide +kernel
theorem dX9_init_265 : decode cX9_init 265 = .ok (.iconst 5, 1) := by decide +kernel
theorem dX9_init_266 : decode cX9_init 266 = .ok (.if_icmp .ne 7, 3) := by decide +kernel
theorem dX9_init_269 : decode cX9_init 269 = .ok (.iconst 1, 1) := by decide +kernel
theorem dX9_init_270 : decode cX9_init 270 = .ok (.goto 4, 3) := by decide +kernel
theorem dX9_init_273 : decode cX9_init 273 = .ok (.iconst 0, 1) := by decide +kernel
theorem dX9_init_274 : decode cX9_init 274 = .ok (.bastore, 1) := by decide +kernel
theorem dX9_init_275 : decode cX9_init 275 = .ok (.iinc 1 1, 3) := by decide +kernel
theorem dX9_init_278 : decode cX9_init 278 = .ok (.goto (-48), 3) := by decide +kernel
theorem dX9_init_281 : decode cX9_init 281 = .ok (.return_, 1) := by decide +kernel
theorem dX9_thrown_0 : decode cX9_thrown 0 = .ok (.aload_n 0, 1) := by decide +kernel
theorem dX9_thrown_1 : decode cX9_thrown 1 = .ok (.getfield 96, 3) := by decide +kernel
theorem dX9_thrown_4 : decode cX9_thrown 4 = .ok (.ireturn, 1) := by decide +kernel
theorem dX9_goes_0 : decode cX9_goes 0 = .ok (.aload_n 0, 1) := by decide +kernel
theorem dX9_goes_1 : decode cX9_goes 1 = .ok (.iload_n 1, 1) := by decide +kernel
theorem dX9_goes_2 : decode cX9_goes 2 = .ok (.putfield 96, 3) := by decide +kernel
theorem dX9_goes_5 : decode cX9_goes 5 = .ok (.iload_n 1, 1) := by decide +kernel
theorem dX9_goes_6 : decode cX9_goes 6 = .ok (.ifCond .ne 7, 3) := by decide +kernel
theorem dX9_goes_9 : decode cX9_goes 9 = .ok (.iconst 1, 1) := by decide +kernel
theorem dX9_goes_10 : decode cX9_goes 10 = .ok (.goto 4, 3) := by decide +kernel
theorem dX9_goes_13 : decode cX9_goes 13 = .ok (.iconst 0, 1) := by decide +kernel
theorem dX9_goes_14 : decode cX9_goes 14 = .ok (.ireturn, 1) := by decide +kernel
theorem dX9_isBetween_0 : decode cX9_isBetween 0 = .ok (.iload_n 0, 1) := by decide +kernel
theorem dX9_isBetween_1 : decode cX9_isBetween 1 = .ok (.iload_n 1, 1) := by decide +kernel
theorem dX9_isBetween_2 : decode cX9_isBetween 2 = .ok (.if_icmp .lt 12, 3) := by decide +kernel
theorem dX9_isBetween_5 : decode cX9_isBetween 5 = .ok (.iload_n 0, 1) := by decide +kernel
theorem dX9_isBetween_6 : decode cX9_isBetween 6 = .ok (.iload_n 2, 1) := by decide +kernel
theorem dX9_isBetween_7 : decode cX9_isBetween 7 = .ok (.if_icmp .gt 7, 3) := by decide +kernel
theorem dX9_isBetween_10 : decode cX9_isBetween 10 = .ok (.iconst 1, 1) := by decide +kernel
theorem dX9_isBetween_11 : decode cX9_isBetween 11 = .ok (.goto 4, 3) := by decide +kernel
theorem dX9_isBetween_14 : decode cX9_isBetween 14 = .ok (.iconst 0, 1) := by decide +kernel
theorem dX9_isBetween_15 : decode cX9_isBetween 15 = .ok (.ireturn, 1) := by decide +kernel
theorem dX9_isLot_0 : decode cX9_isLot 0 = .ok (.iload_n 1, 1) := by decide +kernel
theorem dX9_isLot_1 : decode cX9_isLot 1 = .ok (.iconst 0, 1) := by decide +kernel
theorem dX9_isLot_2 : decode cX9_isLot 2 = .ok (.aload_n 0, 1) := by decide +kernel
theorem dX9_isLot_3 : decode cX9_isLot 3 = .ok (.getfield 100, 3) := by decide +kernel
theorem dX9_isLot_6 : decode cX9_isLot 6 = .ok (.iconst 1, 1) := by decide +kernel
theorem dX9_isLot_7 : decode cX9_isLot 7 = .ok (.isub, 1) := by decide +kernel
theorem dX9_isLot_8 : decode cX9_isLot 8 = .ok (.invokestatic 103, 3) := by decide +kernel
theorem dX9_isLot_11 : decode cX9_isLot 11 = .ok (.ireturn, 1) := by decide +kernel
theorem dX9_isPanel_0 : decode cX9_isPanel 0 = .ok (.iload_n 1, 1) := by decide +kernel
theorem dX9_isPanel_1 : decode cX9_isPanel 1 = .ok (.iconst 0, 1) := by decide +kernel
theorem dX9_isPanel_2 : decode cX9_isPanel 2 = .ok (.aload_n 0, 1) := by decide +kernel
theorem dX9_isPanel_3 : decode cX9_isPanel 3 = .ok (.getfield 107, 3) := by decide +kernel
theorem dX9_isPanel_6 : decode cX9_isPanel 6 = .ok (.iconst 1, 1) := by decide +kernel
theorem dX9_isPanel_7 : decode cX9_isPanel 7 = .ok (.isub, 1) := by decide +kernel
theorem dX9_isPanel_8 : decode cX9_isPanel 8 = .ok (.invokestatic 103, 3) := by decide +kernel
theorem dX9_isPanel_11 : decode cX9_isPanel 11 = .ok (.ireturn, 1) := by decide +kernel
theorem dX9_lesser_0 : decode cX9_lesser 0 = .ok (.lload_n 0, 1) := by decide +kernel
theorem dX9_lesser_1 : decode cX9_lesser 1 = .ok (.lload_n 2, 1) := by decide +kernel
theorem dX9_lesser_2 : decode cX9_lesser 2 = .ok (.lcmp, 1) := by decide +kernel
theorem dX9_lesser_3 : decode cX9_lesser 3 = .ok (.ifCond .ge 7, 3) := by decide +kernel
theorem dX9_lesser_6 : decode cX9_lesser 6 = .ok (.lload_n 0, 1) := by decide +kernel
theorem dX9_lesser_7 : decode cX9_lesser 7 = .ok (.goto 4, 3) := by decide +kernel
theorem dX9_lesser_10 : decode cX9_lesser 10 = .ok (.lload_n 2, 1) := by decide +kernel
theorem dX9_lesser_11 : decode cX9_lesser 11 = .ok (.lreturn, 1) := by decide +kernel
theorem dX9_lot_0 : decode cX9_lot 0 = .ok (.iload_n 1, 1) := by decide +kernel
theorem dX9_lot_1 : decode cX9_lot 1 = .ok (.iconst 1, 1) := by decide +kernel
theorem dX9_lot_2 : decode cX9_lot 2 = .ok (.ldc 110, 2) := by decide +kernel
theorem dX9_lot_4 : decode cX9_lot 4 = .ok (.invokestatic 103, 3) := by decide +kernel
theorem dX9_lot_7 : decode cX9_lot 7 = .ok (.ifCond .eq 27, 3) := by decide +kernel
theorem dX9_lot_10 : decode cX9_lot 10 = .ok (.iload_n 2, 1) := by decide +kernel
theorem dX9_lot_11 : decode cX9_lot 11 = .ok (.iconst 1, 1) := by decide +kernel
theorem dX9_lot_12 : decode cX9_lot 12 = .ok (.ldc 110, 2) := by decide +kernel
theorem dX9_lot_14 : decode cX9_lot 14 = .ok (.invokestatic 103, 3) := by decide +kernel
theorem dX9_lot_17 : decode cX9_lot 17 = .ok (.ifCond .eq 17, 3) := by decide +kernel
theorem dX9_lot_20 : decode cX9_lot 20 = .ok (.iload_n 3, 1) := by decide +kernel
theorem dX9_lot_21 : decode cX9_lot 21 = .ok (.iconst 1, 1) := by decide +kernel
theorem dX9_lot_22 : decode cX9_lot 22 = .ok (.ldc 110, 2) := by decide +kernel
theorem dX9_lot_24 : decode cX9_lot 24 = .ok (.invokestatic 103, 3) := by decide +kernel
theorem dX9_lot_27 : decode cX9_lot 27 = .ok (.ifCond .eq 7, 3) := by decide +kernel
theorem dX9_lot_30 : decode cX9_lot 30 = .ok (.iconst 1, 1) := by decide +kernel
theorem dX9_lot_31 : decode cX9_lot 31 = .ok (.goto 4, 3) := by decide +kernel
theorem dX9_lot_34 : decode cX9_lot 34 = .ok (.iconst 0, 1) := by decide +kernel
theorem dX9_lot_35 : decode cX9_lot 35 = .ok (.istore 4, 2) := by decide +kernel
theorem dX9_lot_37 : decode cX9_lot 37 = .ok (.aload_n 0, 1) := by decide +kernel
theorem dX9_lot_38 : decode cX9_lot 38 = .ok (.iload 4, 2) := by decide +kernel
theorem dX9_lot_40 : decode cX9_lot 40 = .ok (.ifCond .ne 7, 3) := by decide +kernel
theorem dX9_lot_43 : decode cX9_lot 43 = .ok (.iconst 1, 1) := by decide +kernel
theorem dX9_lot_44 : decode cX9_lot 44 = .ok (.goto 17, 3) := by decide +kernel
theorem dX9_lot_47 : decode cX9_lot 47 = .ok (.aload_n 0, 1) := by decide +kernel
theorem dX9_lot_48 : decode cX9_lot 48 = .ok (.getfield 100, 3) := by decide +kernel
theorem dX9_lot_51 : decode cX9_lot 51 = .ok (.bipush 6, 2) := by decide +kernel
theorem dX9_lot_53 : decode cX9_lot 53 = .ok (.if_icmp .ne 7, 3) := by decide +kernel
theorem dX9_lot_56 : decode cX9_lot 56 = .ok (.iconst 2, 1) := by decide +kernel
theorem dX9_lot_57 : decode cX9_lot 57 = .ok (.goto 4, 3) := by decide +kernel
theorem dX9_lot_60 : decode cX9_lot 60 = .ok (.iconst 0, 1) := by decide +kernel
theorem dX9_lot_61 : decode cX9_lot 61 = .ok (.invokevirtual 111, 3) := by decide +kernel
theorem dX9_lot_64 : decode cX9_lot 64 = .ok (.ifCond .ne 5, 3) := by decide +kernel
theorem dX9_lot_67 : decode cX9_lot 67 = .ok (.iconst 0, 1) := by decide +kernel
theorem dX9_lot_68 : decode cX9_lot 68 = .ok (.ireturn, 1) := by decide +kernel
theorem dX9_lot_69 : decode cX9_lot 69 = .ok (.aload_n 0, 1) := by decide +kernel
theorem dX9_lot_70 : decode cX9_lot 70 = .ok (.getfield 7, 3) := by decide +kernel
theorem dX9_lot_73 : decode cX9_lot 73 = .ok (.iconst 3, 1) := by decide +kernel
theorem dX9_lot_74 : decode cX9_lot 74 = .ok (.aload_n 0, 1) := by decide +kernel
theorem dX9_lot_75 : decode cX9_lot 75 = .ok (.getfield 100, 3) := by decide +kernel
theorem dX9_lot_78 : decode cX9_lot 78 = .ok (.imul, 1) := by decide +kernel
theorem dX9_lot_79 : decode cX9_lot 79 = .ok (.iload_n 1, 1) := by decide +kernel
theorem dX9_lot_80 : decode cX9_lot 80 = .ok (.iastore, 1) := by decide +kernel
theorem dX9_lot_81 : decode cX9_lot 81 = .ok (.aload_n 0, 1) := by decide +kernel
theorem dX9_lot_82 : decode cX9_lot 82 = .ok (.getfield 7, 3) := by decide +kernel
theorem dX9_lot_85 : decode cX9_lot 85 = .ok (.iconst 3, 1) := by decide +kernel
theorem dX9_lot_86 : decode cX9_lot 86 = .ok (.aload_n 0, 1) := by decide +kernel
theorem dX9_lot_87 : decode cX9_lot 87 = .ok (.getfield 100, 3) := by decide +kernel
theorem dX9_lot_90 : decode cX9_lot 90 = .ok (.imul, 1) := by decide +kernel
theorem dX9_lot_91 : decode cX9_lot 91 = .ok (.iconst 1, 1) := by decide +kernel
theorem dX9_lot_92 : decode cX9_lot 92 = .ok (.iadd, 1) := by decide +kernel
theorem dX9_lot_93 : decode cX9_lot 93 = .ok (.iload_n 2, 1) := by decide +kernel
theorem dX9_lot_94 : decode cX9_lot 94 = .ok (.iastore, 1) := by decide +kernel
theorem dX9_lot_95 : decode cX9_lot 95 = .ok (.aload_n 0, 1) := by decide +kernel
theorem dX9_lot_96 : decode cX9_lot 96 = .ok (.getfield 7, 3) := by decide +kernel
theorem dX9_lot_99 : decode cX9_lot 99 = .ok (.iconst 3, 1) := by decide +kernel
theorem dX9_lot_100 : decode cX9_lot 100 = .ok (.aload_n 0, 1) := by decide +kernel
theorem dX9_lot_101 : decode cX9_lot 101 = .ok (.getfield 100, 3) := by decide +kernel
theorem dX9_lot_104 : decode cX9_lot 104 = .ok (.imul, 1) := by decide +kernel
theorem dX9_lot_105 : decode cX9_lot 105 = .ok (.iconst 2, 1) := by decide +kernel
theorem dX9_lot_106 : decode cX9_lot 106 = .ok (.iadd, 1) := by decide +kernel
theorem dX9_lot_107 : decode cX9_lot 107 = .ok (.iload_n 3, 1) := by decide +kernel
theorem dX9_lot_108 : decode cX9_lot 108 = .ok (.iastore, 1) := by decide +kernel
theorem dX9_lot_109 : decode cX9_lot 109 = .ok (.aload_n 0, 1) := by decide +kernel
theorem dX9_lot_110 : decode cX9_lot 110 = .ok (.dup, 1) := by decide +kernel
theorem dX9_lot_111 : decode cX9_lot 111 = .ok (.getfield 100, 3) := by decide +kernel
theorem dX9_lot_114 : decode cX9_lot 114 = .ok (.iconst 1, 1) := by decide +kernel
theorem dX9_lot_115 : decode cX9_lot 115 = .ok (.iadd, 1) := by decide +kernel
theorem dX9_lot_116 : decode cX9_lot 116 = .ok (.putfield 100, 3) := by decide +kernel
theorem dX9_lot_119 : decode cX9_lot 119 = .ok (.aload_n 0, 1) := by decide +kernel
theorem dX9_lot_120 : decode cX9_lot 120 = .ok (.getfield 100, 3) := by decide +kernel
theorem dX9_lot_123 : decode cX9_lot 123 = .ok (.iconst 1, 1) := by decide +kernel
theorem dX9_lot_124 : decode cX9_lot 124 = .ok (.isub, 1) := by decide +kernel
theorem dX9_lot_125 : decode cX9_lot 125 = .ok (.ireturn, 1) := by decide +kernel
theorem dX9_sun_0 : decode cX9_sun 0 = .ok (.aload_n 0, 1) := by decide +kernel
theorem dX9_sun_1 : decode cX9_sun 1 = .ok (.aload_n 0, 1) := by decide +kernel
theorem dX9_sun_2 : decode cX9_sun 2 = .ok (.iload_n 1, 1) := by decide +kernel
theorem dX9_sun_3 : decode cX9_sun 3 = .ok (.invokevirtual 115, 3) := by decide +kernel
theorem dX9_sun_6 : decode cX9_sun 6 = .ok (.ifCond .ne 7, 3) := by decide +kernel
theorem dX9_sun_9 : decode cX9_sun 9 = .ok (.iconst 1, 1) := by decide +kernel
theorem dX9_sun_10 : decode cX9_sun 10 = .ok (.goto 19, 3) := by decide +kernel
theorem dX9_sun_13 : decode cX9_sun 13 = .ok (.iload_n 2, 1) := by decide +kernel
theorem dX9_sun_14 : decode cX9_sun 14 = .ok (.iconst 1, 1) := by decide +kernel
theorem dX9_sun_15 : decode cX9_sun 15 = .ok (.sipush 10000, 3) := by decide +kernel
theorem dX9_sun_18 : decode cX9_sun 18 = .ok (.invokestatic 103, 3) := by decide +kernel
theorem dX9_sun_21 : decode cX9_sun 21 = .ok (.ifCond .eq 7, 3) := by decide +kernel
theorem dX9_sun_24 : decode cX9_sun 24 = .ok (.iconst 0, 1) := by decide +kernel
theorem dX9_sun_25 : decode cX9_sun 25 = .ok (.goto 4, 3) := by decide +kernel
theorem dX9_sun_28 : decode cX9_sun 28 = .ok (.iconst 2, 1) := by decide +kernel
theorem dX9_sun_29 : decode cX9_sun 29 = .ok (.invokevirtual 111, 3) := by decide +kernel
theorem dX9_sun_32 : decode cX9_sun 32 = .ok (.ifCond .ne 5, 3) := by decide +kernel
theorem dX9_sun_35 : decode cX9_sun 35 = .ok (.iconst 0, 1) := by decide +kernel
theorem dX9_sun_36 : decode cX9_sun 36 = .ok (.ireturn, 1) := by decide +kernel
theorem dX9_sun_37 : decode cX9_sun 37 = .ok (.aload_n 0, 1) := by decide +kernel
theorem dX9_sun_38 : decode cX9_sun 38 = .ok (.getfield 13, 3) := by decide +kernel
theorem dX9_sun_41 : decode cX9_sun 41 = .ok (.iload_n 1, 1) := by decide +kernel
theorem dX9_sun_42 : decode cX9_sun 42 = .ok (.aload_n 0, 1) := by decide +kernel
theorem dX9_sun_43 : decode cX9_sun 43 = .ok (.getfield 13, 3) := by decide +kernel
theorem dX9_sun_46 : decode cX9_sun 46 = .ok (.iload_n 1, 1) := by decide +kernel
theorem dX9_sun_47 : decode cX9_sun 47 = .ok (.iaload, 1) := by decide +kernel
theorem dX9_sun_48 : decode cX9_sun 48 = .ok (.iload_n 2, 1) := by decide +kernel
theorem dX9_sun_49 : decode cX9_sun 49 = .ok (.iadd, 1) := by decide +kernel
theorem dX9_sun_50 : decode cX9_sun 50 = .ok (.ldc 118, 2) := by decide +kernel
theorem dX9_sun_52 : decode cX9_sun 52 = .ok (.if_icmp .le 8, 3) := by decide +kernel
theorem dX9_sun_55 : decode cX9_sun 55 = .ok (.ldc 118, 2) := by decide +kernel
theorem dX9_sun_57 : decode cX9_sun 57 = .ok (.goto 11, 3) := by decide +kernel
theorem dX9_sun_60 : decode cX9_sun 60 = .ok (.aload_n 0, 1) := by decide +kernel
theorem dX9_sun_61 : decode cX9_sun 61 = .ok (.getfield 13, 3) := by decide +kernel
theorem dX9_sun_64 : decode cX9_sun 64 = .ok (.iload_n 1, 1) := by decide +kernel
theorem dX9_sun_65 : decode cX9_sun 65 = .ok (.iaload, 1) := by decide +kernel
theorem dX9_sun_66 : decode cX9_sun 66 = .ok (.iload_n 2, 1) := by decide +kernel
theorem dX9_sun_67 : decode cX9_sun 67 = .ok (.iadd, 1) := by decide +kernel
theorem dX9_sun_68 : decode cX9_sun 68 = .ok (.iastore, 1) := by decide +kernel
theorem dX9_sun_69 : decode cX9_sun 69 = .ok (.aload_n 0, 1) := by decide +kernel
theorem dX9_sun_70 : decode cX9_sun 70 = .ok (.getfield 13, 3) := by decide +kernel
theorem dX9_sun_73 : decode cX9_sun 73 = .ok (.iload_n 1, 1) := by decide +kernel
theorem dX9_sun_74 : decode cX9_sun 74 = .ok (.iaload, 1) := by decide +kernel
theorem dX9_sun_75 : decode cX9_sun 75 = .ok (.ireturn, 1) := by decide +kernel
theorem dX9_panel_0 : decode cX9_panel 0 = .ok (.iload_n 2, 1) := by decide +kernel
theorem dX9_panel_1 : decode cX9_panel 1 = .ok (.iconst 1, 1) := by decide +kernel
theorem dX9_panel_2 : decode cX9_panel 2 = .ok (.sipush 150, 3) := by decide +kernel
theorem dX9_panel_5 : decode cX9_panel 5 = .ok (.invokestatic 103, 3) := by decide +kernel
theorem dX9_panel_8 : decode cX9_panel 8 = .ok (.ifCond .eq 28, 3) := by decide +kernel
theorem dX9_panel_11 : decode cX9_panel 11 = .ok (.iload_n 3, 1) := by decide +kernel
theorem dX9_panel_12 : decode cX9_panel 12 = .ok (.iconst 1, 1) := by decide +kernel
theorem dX9_panel_13 : decode cX9_panel 13 = .ok (.sipush 150, 3) := by decide +kernel
theorem dX9_panel_16 : decode cX9_panel 16 = .ok (.invokestatic 103, 3) := by decide +kernel
theorem dX9_panel_19 : decode cX9_panel 19 = .ok (.ifCond .eq 17, 3) := by decide +kernel
theorem dX9_panel_22 : decode cX9_panel 22 = .ok (.iload 4, 2) := by decide +kernel
theorem dX9_panel_24 : decode cX9_panel 24 = .ok (.iconst 0, 1) := by decide +kernel
theorem dX9_panel_25 : decode cX9_panel 25 = .ok (.iconst 2, 1) := by decide +kernel
theorem dX9_panel_26 : decode cX9_panel 26 = .ok (.invokestatic 103, 3) := by decide +kernel
theorem dX9_panel_29 : decode cX9_panel 29 = .ok (.ifCond .eq 7, 3) := by decide +kernel
theorem dX9_panel_32 : decode cX9_panel 32 = .ok (.iconst 1, 1) := by decide +kernel
theorem dX9_panel_33 : decode cX9_panel 33 = .ok (.goto 4, 3) := by decide +kernel
theorem dX9_panel_36 : decode cX9_panel 36 = .ok (.iconst 0, 1) := by decide +kernel
theorem dX9_panel_37 : decode cX9_panel 37 = .ok (.istore 5, 2) := by decide +kernel
theorem dX9_panel_39 : decode cX9_panel 39 = .ok (.iload 4, 2) := by decide +kernel
theorem dX9_panel_41 : decode cX9_panel 41 = .ok (.iconst 2, 1) := by decide +kernel
theorem dX9_panel_42 : decode cX9_panel 42 = .ok (.if_icmp .ne 16, 3) := by decide +kernel
theorem dX9_panel_45 : decode cX9_panel 45 = .ok (.iload_n 2, 1) := by decide +kernel
theorem dX9_panel_46 : decode cX9_panel 46 = .ok (.iload_n 3, 1) := by decide +kernel
theorem dX9_panel_47 : decode cX9_panel 47 = .ok (.iadd, 1) := by decide +kernel
theorem dX9_panel_48 : decode cX9_panel 48 = .ok (.sipush 150, 3) := by decide +kernel
theorem dX9_panel_51 : decode cX9_panel 51 = .ok (.if_icmp .le 7, 3) := by decide +kernel
theorem dX9_panel_54 : decode cX9_panel 54 = .ok (.iconst 1, 1) := by decide +kernel
theorem dX9_panel_55 : decode cX9_panel 55 = .ok (.goto 4, 3) := by decide +kernel
theorem dX9_panel_58 : decode cX9_panel 58 = .ok (.iconst 0, 1) := by decide +kernel
theorem dX9_panel_59 : decode cX9_panel 59 = .ok (.istore 6, 2) := by decide +kernel
theorem dX9_panel_61 : decode cX9_panel 61 = .ok (.aload_n 0, 1) := by decide +kernel
theorem dX9_panel_62 : decode cX9_panel 62 = .ok (.aload_n 0, 1) := by decide +kernel
theorem dX9_panel_63 : decode cX9_panel 63 = .ok (.iload_n 1, 1) := by decide +kernel
theorem dX9_panel_64 : decode cX9_panel 64 = .ok (.invokevirtual 115, 3) := by decide +kernel
theorem dX9_panel_67 : decode cX9_panel 67 = .ok (.ifCond .ne 7, 3) := by decide +kernel
theorem dX9_panel_70 : decode cX9_panel 70 = .ok (.iconst 1, 1) := by decide +kernel
theorem dX9_panel_71 : decode cX9_panel 71 = .ok (.goto 31, 3) := by decide +kernel
theorem dX9_panel_74 : decode cX9_panel 74 = .ok (.iload 5, 2) := by decide +kernel
theorem dX9_panel_76 : decode cX9_panel 76 = .ok (.ifCond .eq 8, 3) := by decide +kernel
theorem dX9_panel_79 : decode cX9_panel 79 = .ok (.iload 6, 2) := by decide +kernel
theorem dX9_panel_81 : decode cX9_panel 81 = .ok (.ifCond .eq 7, 3) := by decide +kernel
theorem dX9_panel_84 : decode cX9_panel 84 = .ok (.iconst 2, 1) := by decide +kernel
theorem dX9_panel_85 : decode cX9_panel 85 = .ok (.goto 17, 3) := by decide +kernel
theorem dX9_panel_88 : decode cX9_panel 88 = .ok (.aload_n 0, 1) := by decide +kernel
theorem dX9_panel_89 : decode cX9_panel 89 = .ok (.getfield 107, 3) := by decide +kernel
theorem dX9_panel_92 : decode cX9_panel 92 = .ok (.bipush 12, 2) := by decide +kernel
theorem dX9_panel_94 : decode cX9_panel 94 = .ok (.if_icmp .ne 7, 3) := by decide +kernel
theorem dX9_panel_97 : decode cX9_panel 97 = .ok (.iconst 3, 1) := by decide +kernel
theorem dX9_panel_98 : decode cX9_panel 98 = .ok (.goto 4, 3) := by decide +kernel
theorem dX9_panel_101 : decode cX9_panel 101 = .ok (.iconst 0, 1) := by decide +kernel
theorem dX9_panel_102 : decode cX9_panel 102 = .ok (.invokevirtual 111, 3) := by decide +kernel
theorem dX9_panel_105 : decode cX9_panel 105 = .ok (.ifCond .ne 5, 3) := by decide +kernel
theorem dX9_panel_108 : decode cX9_panel 108 = .ok (.iconst 0, 1) := by decide +kernel
theorem dX9_panel_109 : decode cX9_panel 109 = .ok (.ireturn, 1) := by decide +kernel
theorem dX9_panel_110 : decode cX9_panel 110 = .ok (.aload_n 0, 1) := by decide +kernel
theorem dX9_panel_111 : decode cX9_panel 111 = .ok (.getfield 20, 3) := by decide +kernel
theorem dX9_panel_114 : decode cX9_panel 114 = .ok (.aload_n 0, 1) := by decide +kernel
theorem dX9_panel_115 : decode cX9_panel 115 = .ok (.getfield 107, 3) := by decide +kernel
theorem dX9_panel_118 : decode cX9_panel 118 = .ok (.iload_n 1, 1) := by decide +kernel
theorem dX9_panel_119 : decode cX9_panel 119 = .ok (.iastore, 1) := by decide +kernel
theorem dX9_panel_120 : decode cX9_panel 120 = .ok (.aload_n 0, 1) := by decide +kernel
theorem dX9_panel_121 : decode cX9_panel 121 = .ok (.getfield 23, 3) := by decide +kernel
theorem dX9_panel_124 : decode cX9_panel 124 = .ok (.aload_n 0, 1) := by decide +kernel
theorem dX9_panel_125 : decode cX9_panel 125 = .ok (.getfield 107, 3) := by decide +kernel
theorem dX9_panel_128 : decode cX9_panel 128 = .ok (.iload_n 2, 1) := by decide +kernel
theorem dX9_panel_129 : decode cX9_panel 129 = .ok (.iastore, 1) := by decide +kernel
theorem dX9_panel_130 : decode cX9_panel 130 = .ok (.aload_n 0, 1) := by decide +kernel
theorem dX9_panel_131 : decode cX9_panel 131 = .ok (.getfield 26, 3) := by decide +kernel
theorem dX9_panel_134 : decode cX9_panel 134 = .ok (.aload_n 0, 1) := by decide +kernel
theorem dX9_panel_135 : decode cX9_panel 135 = .ok (.getfield 107, 3) := by decide +kernel
theorem dX9_panel_138 : decode cX9_panel 138 = .ok (.iload_n 3, 1) := by decide +kernel
theorem dX9_panel_139 : decode cX9_panel 139 = .ok (.iastore, 1) := by decide +kernel
theorem dX9_panel_140 : decode cX9_panel 140 = .ok (.aload_n 0, 1) := by decide +kernel
theorem dX9_panel_141 : decode cX9_panel 141 = .ok (.getfield 29, 3) := by decide +kernel
theorem dX9_panel_144 : decode cX9_panel 144 = .ok (.aload_n 0, 1) := by decide +kernel
theorem dX9_panel_145 : decode cX9_panel 145 = .ok (.getfield 107, 3) := by decide +kernel
theorem dX9_panel_148 : decode cX9_panel 148 = .ok (.iload 4, 2) := by decide +kernel
theorem dX9_panel_150 : decode cX9_panel 150 = .ok (.iastore, 1) := by decide +kernel
theorem dX9_panel_151 : decode cX9_panel 151 = .ok (.aload_n 0, 1) := by decide +kernel
theorem dX9_panel_152 : decode cX9_panel 152 = .ok (.dup, 1) := by decide +kernel
theorem dX9_panel_153 : decode cX9_panel 153 = .ok (.getfield 107, 3) := by decide +kernel
theorem dX9_panel_156 : decode cX9_panel 156 = .ok (.iconst 1, 1) := by decide +kernel
theorem dX9_panel_157 : decode cX9_panel 157 = .ok (.iadd, 1) := by decide +kernel
theorem dX9_panel_158 : decode cX9_panel 158 = .ok (.putfield 107, 3) := by decide +kernel
theorem dX9_panel_161 : decode cX9_panel 161 = .ok (.aload_n 0, 1) := by decide +kernel
theorem dX9_panel_162 : decode cX9_panel 162 = .ok (.getfield 107, 3) := by decide +kernel
theorem dX9_panel_165 : decode cX9_panel 165 = .ok (.iconst 1, 1) := by decide +kernel
theorem dX9_panel_166 : decode cX9_panel 166 = .ok (.isub, 1) := by decide +kernel
theorem dX9_panel_167 : decode cX9_panel 167 = .ok (.ireturn, 1) := by decide +kernel
theorem dX9_strengthOf_0 : decode cX9_strengthOf 0 = .ok (.aload_n 0, 1) := by decide +kernel
theorem dX9_strengthOf_1 : decode cX9_strengthOf 1 = .ok (.getfield 20, 3) := by decide +kernel
theorem dX9_strengthOf_4 : decode cX9_strengthOf 4 = .ok (.iload_n 1, 1) := by decide +kernel
theorem dX9_strengthOf_5 : decode cX9_strengthOf 5 = .ok (.iaload, 1) := by decide +kernel
theorem dX9_strengthOf_6 : decode cX9_strengthOf 6 = .ok (.istore_n 2, 1) := by decide +kernel
theorem dX9_strengthOf_7 : decode cX9_strengthOf 7 = .ok (.sipush 1000, 3) := by decide +kernel
theorem dX9_strengthOf_10 : decode cX9_strengthOf 10 = .ok (.aload_n 0, 1) := by decide +kernel
theorem dX9_strengthOf_11 : decode cX9_strengthOf 11 = .ok (.getfield 13, 3) := by decide +kernel
theorem dX9_strengthOf_14 : decode cX9_strengthOf 14 = .ok (.iload_n 2, 1) := by decide +kernel
theorem dX9_strengthOf_15 : decode cX9_strengthOf 15 = .ok (.iaload, 1) := by decide +kernel
theorem dX9_strengthOf_16 : decode cX9_strengthOf 16 = .ok (.isub, 1) := by decide +kernel
theorem dX9_strengthOf_17 : decode cX9_strengthOf 17 = .ok (.bipush 100, 2) := by decide +kernel
theorem dX9_strengthOf_19 : decode cX9_strengthOf 19 = .ok (.if_icmp .ge 8, 3) := by decide +kernel
theorem dX9_strengthOf_22 : decode cX9_strengthOf 22 = .ok (.bipush 100, 2) := by decide +kernel
theorem dX9_strengthOf_24 : decode cX9_strengthOf 24 = .ok (.goto 13, 3) := by decide +kernel
theorem dX9_strengthOf_27 : decode cX9_strengthOf 27 = .ok (.sipush 1000, 3) := by decide +kernel
theorem dX9_strengthOf_30 : decode cX9_strengthOf 30 = .ok (.aload_n 0, 1) := by decide +kernel
theorem dX9_strengthOf_31 : decode cX9_strengthOf 31 = .ok (.getfield 13, 3) := by decide +kernel
theorem dX9_strengthOf_34 : decode cX9_strengthOf 34 = .ok (.iload_n 2, 1) := by decide +kernel
theorem dX9_strengthOf_35 : decode cX9_strengthOf 35 = .ok (.iaload, 1) := by decide +kernel
theorem dX9_strengthOf_36 : decode cX9_strengthOf 36 = .ok (.isub, 1) := by decide +kernel
theorem dX9_strengthOf_37 : decode cX9_strengthOf 37 = .ok (.istore_n 3, 1) := by decide +kernel
theorem dX9_strengthOf_38 : decode cX9_strengthOf 38 = .ok (.aload_n 0, 1) := by decide +kernel
theorem dX9_strengthOf_39 : decode cX9_strengthOf 39 = .ok (.getfield 7, 3) := by decide +kernel
theorem dX9_strengthOf_42 : decode cX9_strengthOf 42 = .ok (.iconst 3, 1) := by decide +kernel
theorem dX9_strengthOf_43 : decode cX9_strengthOf 43 = .ok (.iload_n 2, 1) := by decide +kernel
theorem dX9_strengthOf_44 : decode cX9_strengthOf 44 = .ok (.imul, 1) := by decide +kernel
theorem dX9_strengthOf_45 : decode cX9_strengthOf 45 = .ok (.aload_n 0, 1) := by decide +kernel
theorem dX9_strengthOf_46 : decode cX9_strengthOf 46 = .ok (.getfield 29, 3) := by decide +kernel
theorem dX9_strengthOf_49 : decode cX9_strengthOf 49 = .ok (.iload_n 1, 1) := by decide +kernel
theorem dX9_strengthOf_50 : decode cX9_strengthOf 50 = .ok (.iaload, 1) := by decide +kernel
theorem dX9_strengthOf_51 : decode cX9_strengthOf 51 = .ok (.iadd, 1) := by decide +kernel
theorem dX9_strengthOf_52 : decode cX9_strengthOf 52 = .ok (.iaload, 1) := by decide +kernel
theorem dX9_strengthOf_53 : decode cX9_strengthOf 53 = .ok (.i2l, 1) := by decide +kernel
theorem dX9_strengthOf_54 : decode cX9_strengthOf 54 = .ok (.iload_n 3, 1) := by decide +kernel
theorem dX9_strengthOf_55 : decode cX9_strengthOf 55 = .ok (.i2l, 1) := by decide +kernel
theorem dX9_strengthOf_56 : decode cX9_strengthOf 56 = .ok (.lmul, 1) := by decide +kernel
theorem dX9_strengthOf_57 : decode cX9_strengthOf 57 = .ok (.ldc2_w 119, 3) := by decide +kernel
theorem dX9_strengthOf_60 : decode cX9_strengthOf 60 = .ok (.ldiv, 1) := by decide +kernel
theorem dX9_strengthOf_61 : decode cX9_strengthOf 61 = .ok (.lstore 4, 2) := by decide +kernel
theorem dX9_strengthOf_63 : decode cX9_strengthOf 63 = .ok (.lload 4, 2) := by decide +kernel
theorem dX9_strengthOf_65 : decode cX9_strengthOf 65 = .ok (.aload_n 0, 1) := by decide +kernel
theorem dX9_strengthOf_66 : decode cX9_strengthOf 66 = .ok (.getfield 23, 3) := by decide +kernel
theorem dX9_strengthOf_69 : decode cX9_strengthOf 69 = .ok (.iload_n 1, 1) := by decide +kernel
theorem dX9_strengthOf_70 : decode cX9_strengthOf 70 = .ok (.iaload, 1) := by decide +kernel
theorem dX9_strengthOf_71 : decode cX9_strengthOf 71 = .ok (.i2l, 1) := by decide +kernel
theorem dX9_strengthOf_72 : decode cX9_strengthOf 72 = .ok (.lmul, 1) := by decide +kernel
theorem dX9_strengthOf_73 : decode cX9_strengthOf 73 = .ok (.lreturn, 1) := by decide +kernel
theorem dX9_strength_0 : decode cX9_strength 0 = .ok (.aload_n 0, 1) := by decide +kernel
theorem dX9_strength_1 : decode cX9_strength 1 = .ok (.aload_n 0, 1) := by decide +kernel
theorem dX9_strength_2 : decode cX9_strength 2 = .ok (.iload_n 1, 1) := by decide +kernel
theorem dX9_strength_3 : decode cX9_strength 3 = .ok (.invokevirtual 121, 3) := by decide +kernel
theorem dX9_strength_6 : decode cX9_strength 6 = .ok (.ifCond .eq 7, 3) := by decide +kernel
theorem dX9_strength_9 : decode cX9_strength 9 = .ok (.iconst 0, 1) := by decide +kernel
theorem dX9_strength_10 : decode cX9_strength 10 = .ok (.goto 4, 3) := by decide +kernel
theorem dX9_strength_13 : decode cX9_strength 13 = .ok (.iconst 1, 1) := by decide +kernel
theorem dX9_strength_14 : decode cX9_strength 14 = .ok (.invokevirtual 111, 3) := by decide +kernel
theorem dX9_strength_17 : decode cX9_strength 17 = .ok (.ifCond .eq 11, 3) := by decide +kernel
theorem dX9_strength_20 : decode cX9_strength 20 = .ok (.aload_n 0, 1) := by decide +kernel
theorem dX9_strength_21 : decode cX9_strength 21 = .ok (.iload_n 1, 1) := by decide +kernel
theorem dX9_strength_22 : decode cX9_strength 22 = .ok (.invokevirtual 124, 3) := by decide +kernel
theorem dX9_strength_25 : decode cX9_strength 25 = .ok (.goto 4, 3) := by decide +kernel
theorem dX9_strength_28 : decode cX9_strength 28 = .ok (.lconst 0, 1) := by decide +kernel
theorem dX9_strength_29 : decode cX9_strength 29 = .ok (.lreturn, 1) := by decide +kernel
theorem dX9_across_0 : decode cX9_across 0 = .ok (.aload_n 0, 1) := by decide +kernel
theorem dX9_across_1 : decode cX9_across 1 = .ok (.getfield 29, 3) := by decide +kernel
theorem dX9_across_4 : decode cX9_across 4 = .ok (.iload_n 1, 1) := by decide +kernel
theorem dX9_across_5 : decode cX9_across 5 = .ok (.iaload, 1) := by decide +kernel
theorem dX9_across_6 : decode cX9_across 6 = .ok (.ifCond .ne 12, 3) := by decide +kernel
theorem dX9_across_9 : decode cX9_across 9 = .ok (.aload_n 0, 1) := by decide +kernel
theorem dX9_across_10 : decode cX9_across 10 = .ok (.getfield 23, 3) := by decide +kernel
theorem dX9_across_13 : decode cX9_across 13 = .ok (.iload_n 1, 1) := by decide +kernel
theorem dX9_across_14 : decode cX9_across 14 = .ok (.iaload, 1) := by decide +kernel
theorem dX9_across_15 : decode cX9_across 15 = .ok (.goto 35, 3) := by decide +kernel
theorem dX9_across_18 : decode cX9_across 18 = .ok (.aload_n 0, 1) := by decide +kernel
theorem dX9_across_19 : decode cX9_across 19 = .ok (.getfield 29, 3) := by decide +kernel
theorem dX9_across_22 : decode cX9_across 22 = .ok (.iload_n 1, 1) := by decide +kernel
theorem dX9_across_23 : decode cX9_across 23 = .ok (.iaload, 1) := by decide +kernel
theorem dX9_across_24 : decode cX9_across 24 = .ok (.iconst 1, 1) := by decide +kernel
theorem dX9_across_25 : decode cX9_across 25 = .ok (.if_icmp .ne 12, 3) := by decide +kernel
theorem dX9_across_28 : decode cX9_across 28 = .ok (.aload_n 0, 1) := by decide +kernel
theorem dX9_across_29 : decode cX9_across 29 = .ok (.getfield 26, 3) := by decide +kernel
theorem dX9_across_32 : decode cX9_across 32 = .ok (.iload_n 1, 1) := by decide +kernel
theorem dX9_across_33 : decode cX9_across 33 = .ok (.iaload, 1) := by decide +kernel
theorem dX9_across_34 : decode cX9_across 34 = .ok (.goto 16, 3) := by decide +kernel
theorem dX9_across_37 : decode cX9_across 37 = .ok (.aload_n 0, 1) := by decide +kernel
theorem dX9_across_38 : decode cX9_across 38 = .ok (.getfield 23, 3) := by decide +kernel
theorem dX9_across_41 : decode cX9_across 41 = .ok (.iload_n 1, 1) := by decide +kernel
theorem dX9_across_42 : decode cX9_across 42 = .ok (.iaload, 1) := by decide +kernel
theorem dX9_across_43 : decode cX9_across 43 = .ok (.aload_n 0, 1) := by decide +kernel
theorem dX9_across_44 : decode cX9_across 44 = .ok (.getfield 26, 3) := by decide +kernel
theorem dX9_across_47 : decode cX9_across 47 = .ok (.iload_n 1, 1) := by decide +kernel
theorem dX9_across_48 : decode cX9_across 48 = .ok (.iaload, 1) := by decide +kernel
theorem dX9_across_49 : decode cX9_across 49 = .ok (.iadd, 1) := by decide +kernel
theorem dX9_across_50 : decode cX9_across 50 = .ok (.ireturn, 1) := by decide +kernel
theorem dX9_length_0 : decode cX9_length 0 = .ok (.aload_n 0, 1) := by decide +kernel
theorem dX9_length_1 : decode cX9_length 1 = .ok (.getfield 29, 3) := by decide +kernel
theorem dX9_length_4 : decode cX9_length 4 = .ok (.iload_n 1, 1) := by decide +kernel
theorem dX9_length_5 : decode cX9_length 5 = .ok (.iaload, 1) := by decide +kernel
theorem dX9_length_6 : decode cX9_length 6 = .ok (.ifCond .ne 12, 3) := by decide +kernel
theorem dX9_length_9 : decode cX9_length 9 = .ok (.aload_n 0, 1) := by decide +kernel
theorem dX9_length_10 : decode cX9_length 10 = .ok (.getfield 26, 3) := by decide +kernel
theorem dX9_length_13 : decode cX9_length 13 = .ok (.iload_n 1, 1) := by decide +kernel
theorem dX9_length_14 : decode cX9_length 14 = .ok (.iaload, 1) := by decide +kernel
theorem dX9_length_15 : decode cX9_length 15 = .ok (.goto 35, 3) := by decide +kernel
theorem dX9_length_18 : decode cX9_length 18 = .ok (.aload_n 0, 1) := by decide +kernel
theorem dX9_length_19 : decode cX9_length 19 = .ok (.getfield 29, 3) := by decide +kernel
theorem dX9_length_22 : decode cX9_length 22 = .ok (.iload_n 1, 1) := by decide +kernel
theorem dX9_length_23 : decode cX9_length 23 = .ok (.iaload, 1) := by decide +kernel
theorem dX9_length_24 : decode cX9_length 24 = .ok (.iconst 1, 1) := by decide +kernel
theorem dX9_length_25 : decode cX9_length 25 = .ok (.if_icmp .ne 12, 3) := by decide +kernel
theorem dX9_length_28 : decode cX9_length 28 = .ok (.aload_n 0, 1) := by decide +kernel
theorem dX9_length_29 : decode cX9_length 29 = .ok (.getfield 23, 3) := by decide +kernel
theorem dX9_length_32 : decode cX9_length 32 = .ok (.iload_n 1, 1) := by decide +kernel
theorem dX9_length_33 : decode cX9_length 33 = .ok (.iaload, 1) := by decide +kernel
theorem dX9_length_34 : decode cX9_length 34 = .ok (.goto 16, 3) := by decide +kernel
theorem dX9_length_37 : decode cX9_length 37 = .ok (.aload_n 0, 1) := by decide +kernel
theorem dX9_length_38 : decode cX9_length 38 = .ok (.getfield 23, 3) := by decide +kernel
theorem dX9_length_41 : decode cX9_length 41 = .ok (.iload_n 1, 1) := by decide +kernel
theorem dX9_length_42 : decode cX9_length 42 = .ok (.iaload, 1) := by decide +kernel
theorem dX9_length_43 : decode cX9_length 43 = .ok (.aload_n 0, 1) := by decide +kernel
theorem dX9_length_44 : decode cX9_length 44 = .ok (.getfield 26, 3) := by decide +kernel
theorem dX9_length_47 : decode cX9_length 47 = .ok (.iload_n 1, 1) := by decide +kernel
theorem dX9_length_48 : decode cX9_length 48 = .ok (.iaload, 1) := by decide +kernel
theorem dX9_length_49 : decode cX9_length 49 = .ok (.iadd, 1) := by decide +kernel
theorem dX9_length_50 : decode cX9_length 50 = .ok (.ireturn, 1) := by decide +kernel
theorem dX9_roll_0 : decode cX9_roll 0 = .ok (.aload_n 0, 1) := by decide +kernel
theorem dX9_roll_1 : decode cX9_roll 1 = .ok (.aload_n 0, 1) := by decide +kernel
theorem dX9_roll_2 : decode cX9_roll 2 = .ok (.iload_n 1, 1) := by decide +kernel
theorem dX9_roll_3 : decode cX9_roll 3 = .ok (.invokevirtual 115, 3) := by decide +kernel
theorem dX9_roll_6 : decode cX9_roll 6 = .ok (.ifCond .eq 7, 3) := by decide +kernel
theorem dX9_roll_9 : decode cX9_roll 9 = .ok (.iconst 0, 1) := by decide +kernel
theorem dX9_roll_10 : decode cX9_roll 10 = .ok (.goto 4, 3) := by decide +kernel
theorem dX9_roll_13 : decode cX9_roll 13 = .ok (.iconst 1, 1) := by decide +kernel
theorem dX9_roll_14 : decode cX9_roll 14 = .ok (.invokevirtual 111, 3) := by decide +kernel
theorem dX9_roll_17 : decode cX9_roll 17 = .ok (.ifCond .ne 5, 3) := by decide +kernel
theorem dX9_roll_20 : decode cX9_roll 20 = .ok (.iconst 0, 1) := by decide +kernel
theorem dX9_roll_21 : decode cX9_roll 21 = .ok (.ireturn, 1) := by decide +kernel
theorem dX9_roll_22 : decode cX9_roll 22 = .ok (.iconst 0, 1) := by decide +kernel
theorem dX9_roll_23 : decode cX9_roll 23 = .ok (.istore_n 2, 1) := by decide +kernel
theorem dX9_roll_24 : decode cX9_roll 24 = .ok (.iconst 0, 1) := by decide +kernel
theorem dX9_roll_25 : decode cX9_roll 25 = .ok (.istore_n 3, 1) := by decide +kernel
theorem dX9_roll_26 : decode cX9_roll 26 = .ok (.iconst 0, 1) := by decide +kernel
theorem dX9_roll_27 : decode cX9_roll 27 = .ok (.istore 4, 2) := by decide +kernel
theorem dX9_roll_29 : decode cX9_roll 29 = .ok (.iconst 0, 1) := by decide +kernel
theorem dX9_roll_30 : decode cX9_roll 30 = .ok (.istore 5, 2) := by decide +kernel
theorem dX9_roll_32 : decode cX9_roll 32 = .ok (.iload 5, 2) := by decide +kernel
theorem dX9_roll_34 : decode cX9_roll 34 = .ok (.aload_n 0, 1) := by decide +kernel
theorem dX9_roll_35 : decode cX9_roll 35 = .ok (.getfield 107, 3) := by decide +kernel
theorem dX9_roll_38 : decode cX9_roll 38 = .ok (.if_icmp .ge 107, 3) := by decide +kernel
theorem dX9_roll_41 : decode cX9_roll 41 = .ok (.aload_n 0, 1) := by decide +kernel
theorem dX9_roll_42 : decode cX9_roll 42 = .ok (.getfield 20, 3) := by decide +kernel
theorem dX9_roll_45 : decode cX9_roll 45 = .ok (.iload 5, 2) := by decide +kernel
theorem dX9_roll_47 : decode cX9_roll 47 = .ok (.iaload, 1) := by decide +kernel
theorem dX9_roll_48 : decode cX9_roll 48 = .ok (.iload_n 1, 1) := by decide +kernel
theorem dX9_roll_49 : decode cX9_roll 49 = .ok (.if_icmp .ne 90, 3) := by decide +kernel
theorem dX9_roll_52 : decode cX9_roll 52 = .ok (.iload_n 3, 1) := by decide +kernel
theorem dX9_roll_53 : decode cX9_roll 53 = .ok (.aload_n 0, 1) := by decide +kernel
theorem dX9_roll_54 : decode cX9_roll 54 = .ok (.iload 5, 2) := by decide +kernel
theorem dX9_roll_56 : decode cX9_roll 56 = .ok (.invokevirtual 128, 3) := by decide +kernel
theorem dX9_roll_59 : decode cX9_roll 59 = .ok (.iadd, 1) := by decide +kernel
theorem dX9_roll_60 : decode cX9_roll 60 = .ok (.sipush 150, 3) := by decide +kernel
theorem dX9_roll_63 : decode cX9_roll 63 = .ok (.if_icmp .gt 7, 3) := by decide +kernel
theorem dX9_roll_66 : decode cX9_roll 66 = .ok (.iconst 1, 1) := by decide +kernel
theorem dX9_roll_67 : decode cX9_roll 67 = .ok (.goto 4, 3) := by decide +kernel
theorem dX9_roll_70 : decode cX9_roll 70 = .ok (.iconst 0, 1) := by decide +kernel
theorem dX9_roll_71 : decode cX9_roll 71 = .ok (.istore 6, 2) := by decide +kernel
theorem dX9_roll_73 : decode cX9_roll 73 = .ok (.iload_n 2, 1) := by decide +kernel
theorem dX9_roll_74 : decode cX9_roll 74 = .ok (.iload 6, 2) := by decide +kernel
theorem dX9_roll_76 : decode cX9_roll 76 = .ok (.ifCond .eq 7, 3) := by decide +kernel
theorem dX9_roll_79 : decode cX9_roll 79 = .ok (.iconst 0, 1) := by decide +kernel
theorem dX9_roll_80 : decode cX9_roll 80 = .ok (.goto 5, 3) := by decide +kernel
theorem dX9_roll_83 : decode cX9_roll 83 = .ok (.iload 4, 2) := by decide +kernel
theorem dX9_roll_85 : decode cX9_roll 85 = .ok (.iadd, 1) := by decide +kernel
theorem dX9_roll_86 : decode cX9_roll 86 = .ok (.istore_n 2, 1) := by decide +kernel
theorem dX9_roll_87 : decode cX9_roll 87 = .ok (.iload 6, 2) := by decide +kernel
theorem dX9_roll_89 : decode cX9_roll 89 = .ok (.ifCond .eq 19, 3) := by decide +kernel
theorem dX9_roll_92 : decode cX9_roll 92 = .ok (.iload 4, 2) := by decide +kernel
theorem dX9_roll_94 : decode cX9_roll 94 = .ok (.aload_n 0, 1) := by decide +kernel
theorem dX9_roll_95 : decode cX9_roll 95 = .ok (.iload 5, 2) := by decide +kernel
theorem dX9_roll_97 : decode cX9_roll 97 = .ok (.invokevirtual 132, 3) := by decide +kernel
theorem dX9_roll_100 : decode cX9_roll 100 = .ok (.if_icmp .le 8, 3) := by decide +kernel
theorem dX9_roll_103 : decode cX9_roll 103 = .ok (.iload 4, 2) := by decide +kernel
theorem dX9_roll_105 : decode cX9_roll 105 = .ok (.goto 9, 3) := by decide +kernel
theorem dX9_roll_108 : decode cX9_roll 108 = .ok (.aload_n 0, 1) := by decide +kernel
theorem dX9_roll_109 : decode cX9_roll 109 = .ok (.iload 5, 2) := by decide +kernel
theorem dX9_roll_111 : decode cX9_roll 111 = .ok (.invokevirtual 132, 3) := by decide +kernel
theorem dX9_roll_114 : decode cX9_roll 114 = .ok (.istore 4, 2) := by decide +kernel
theorem dX9_roll_116 : decode cX9_roll 116 = .ok (.iload 6, 2) := by decide +kernel
theorem dX9_roll_118 : decode cX9_roll 118 = .ok (.ifCond .eq 14, 3) := by decide +kernel
theorem dX9_roll_121 : decode cX9_roll 121 = .ok (.iload_n 3, 1) := by decide +kernel
theorem dX9_roll_122 : decode cX9_roll 122 = .ok (.aload_n 0, 1) := by decide +kernel
theorem dX9_roll_123 : decode cX9_roll 123 = .ok (.iload 5, 2) := by decide +kernel
theorem dX9_roll_125 : decode cX9_roll 125 = .ok (.invokevirtual 128, 3) := by decide +kernel
theorem dX9_roll_128 : decode cX9_roll 128 = .ok (.iadd, 1) := by decide +kernel
theorem dX9_roll_129 : decode cX9_roll 129 = .ok (.goto 9, 3) := by decide +kernel
theorem dX9_roll_132 : decode cX9_roll 132 = .ok (.aload_n 0, 1) := by decide +kernel
theorem dX9_roll_133 : decode cX9_roll 133 = .ok (.iload 5, 2) := by decide +kernel
theorem dX9_roll_135 : decode cX9_roll 135 = .ok (.invokevirtual 128, 3) := by decide +kernel
theorem dX9_roll_138 : decode cX9_roll 138 = .ok (.istore_n 3, 1) := by decide +kernel
theorem dX9_roll_139 : decode cX9_roll 139 = .ok (.iinc 5 1, 3) := by decide +kernel
theorem dX9_roll_142 : decode cX9_roll 142 = .ok (.goto (-110), 3) := by decide +kernel
theorem dX9_roll_145 : decode cX9_roll 145 = .ok (.iload_n 2, 1) := by decide +kernel
theorem dX9_roll_146 : decode cX9_roll 146 = .ok (.iload 4, 2) := by decide +kernel
theorem dX9_roll_148 : decode cX9_roll 148 = .ok (.iadd, 1) := by decide +kernel
theorem dX9_roll_149 : decode cX9_roll 149 = .ok (.ireturn, 1) := by decide +kernel
theorem dX9_seam_0 : decode cX9_seam 0 = .ok (.aload_n 0, 1) := by decide +kernel
theorem dX9_seam_1 : decode cX9_seam 1 = .ok (.iload_n 1, 1) := by decide +kernel
theorem dX9_seam_2 : decode cX9_seam 2 = .ok (.invokevirtual 121, 3) := by decide +kernel
theorem dX9_seam_5 : decode cX9_seam 5 = .ok (.ifCond .eq 15, 3) := by decide +kernel
theorem dX9_seam_8 : decode cX9_seam 8 = .ok (.aload_n 0, 1) := by decide +kernel
theorem dX9_seam_9 : decode cX9_seam 9 = .ok (.iload_n 2, 1) := by decide +kernel
theorem dX9_seam_10 : decode cX9_seam 10 = .ok (.invokevirtual 121, 3) := by decide +kernel
theorem dX9_seam_13 : decode cX9_seam 13 = .ok (.ifCond .eq 7, 3) := by decide +kernel
theorem dX9_seam_16 : decode cX9_seam 16 = .ok (.iconst 1, 1) := by decide +kernel
theorem dX9_seam_17 : decode cX9_seam 17 = .ok (.goto 4, 3) := by decide +kernel
theorem dX9_seam_20 : decode cX9_seam 20 = .ok (.iconst 0, 1) := by decide +kernel
theorem dX9_seam_21 : decode cX9_seam 21 = .ok (.istore 4, 2) := by decide +kernel
theorem dX9_seam_23 : decode cX9_seam 23 = .ok (.aload_n 0, 1) := by decide +kernel
theorem dX9_seam_24 : decode cX9_seam 24 = .ok (.iload 4, 2) := by decide +kernel
theorem dX9_seam_26 : decode cX9_seam 26 = .ok (.ifCond .ne 7, 3) := by decide +kernel
theorem dX9_seam_29 : decode cX9_seam 29 = .ok (.iconst 1, 1) := by decide +kernel
theorem dX9_seam_30 : decode cX9_seam 30 = .ok (.goto 35, 3) := by decide +kernel
theorem dX9_seam_33 : decode cX9_seam 33 = .ok (.iload_n 1, 1) := by decide +kernel
theorem dX9_seam_34 : decode cX9_seam 34 = .ok (.iload_n 2, 1) := by decide +kernel
theorem dX9_seam_35 : decode cX9_seam 35 = .ok (.if_icmp .eq 12, 3) := by decide +kernel
theorem dX9_seam_38 : decode cX9_seam 38 = .ok (.iload_n 3, 1) := by decide +kernel
theorem dX9_seam_39 : decode cX9_seam 39 = .ok (.iconst 0, 1) := by decide +kernel
theorem dX9_seam_40 : decode cX9_seam 40 = .ok (.iconst 2, 1) := by decide +kernel
theorem dX9_seam_41 : decode cX9_seam 41 = .ok (.invokestatic 103, 3) := by decide +kernel
theorem dX9_seam_44 : decode cX9_seam 44 = .ok (.ifCond .ne 7, 3) := by decide +kernel
theorem dX9_seam_47 : decode cX9_seam 47 = .ok (.iconst 2, 1) := by decide +kernel
theorem dX9_seam_48 : decode cX9_seam 48 = .ok (.goto 17, 3) := by decide +kernel
theorem dX9_seam_51 : decode cX9_seam 51 = .ok (.aload_n 0, 1) := by decide +kernel
theorem dX9_seam_52 : decode cX9_seam 52 = .ok (.getfield 135, 3) := by decide +kernel
theorem dX9_seam_55 : decode cX9_seam 55 = .ok (.bipush 30, 2) := by decide +kernel
theorem dX9_seam_57 : decode cX9_seam 57 = .ok (.if_icmp .ne 7, 3) := by decide +kernel
theorem dX9_seam_60 : decode cX9_seam 60 = .ok (.iconst 3, 1) := by decide +kernel
theorem dX9_seam_61 : decode cX9_seam 61 = .ok (.goto 4, 3) := by decide +kernel
theorem dX9_seam_64 : decode cX9_seam 64 = .ok (.iconst 0, 1) := by decide +kernel
theorem dX9_seam_65 : decode cX9_seam 65 = .ok (.invokevirtual 111, 3) := by decide +kernel
theorem dX9_seam_68 : decode cX9_seam 68 = .ok (.ifCond .ne 5, 3) := by decide +kernel
theorem dX9_seam_71 : decode cX9_seam 71 = .ok (.iconst 0, 1) := by decide +kernel
theorem dX9_seam_72 : decode cX9_seam 72 = .ok (.ireturn, 1) := by decide +kernel
theorem dX9_seam_73 : decode cX9_seam 73 = .ok (.aload_n 0, 1) := by decide +kernel
theorem dX9_seam_74 : decode cX9_seam 74 = .ok (.getfield 32, 3) := by decide +kernel
theorem dX9_seam_77 : decode cX9_seam 77 = .ok (.aload_n 0, 1) := by decide +kernel
theorem dX9_seam_78 : decode cX9_seam 78 = .ok (.getfield 135, 3) := by decide +kernel
theorem dX9_seam_81 : decode cX9_seam 81 = .ok (.iload_n 1, 1) := by decide +kernel
theorem dX9_seam_82 : decode cX9_seam 82 = .ok (.iastore, 1) := by decide +kernel
theorem dX9_seam_83 : decode cX9_seam 83 = .ok (.aload_n 0, 1) := by decide +kernel
theorem dX9_seam_84 : decode cX9_seam 84 = .ok (.getfield 35, 3) := by decide +kernel
theorem dX9_seam_87 : decode cX9_seam 87 = .ok (.aload_n 0, 1) := by decide +kernel
theorem dX9_seam_88 : decode cX9_seam 88 = .ok (.getfield 135, 3) := by decide +kernel
theorem dX9_seam_91 : decode cX9_seam 91 = .ok (.iload_n 2, 1) := by decide +kernel
theorem dX9_seam_92 : decode cX9_seam 92 = .ok (.iastore, 1) := by decide +kernel
theorem dX9_seam_93 : decode cX9_seam 93 = .ok (.aload_n 0, 1) := by decide +kernel
theorem dX9_seam_94 : decode cX9_seam 94 = .ok (.getfield 38, 3) := by decide +kernel
theorem dX9_seam_97 : decode cX9_seam 97 = .ok (.aload_n 0, 1) := by decide +kernel
theorem dX9_seam_98 : decode cX9_seam 98 = .ok (.getfield 135, 3) := by decide +kernel
theorem dX9_seam_101 : decode cX9_seam 101 = .ok (.iload_n 3, 1) := by decide +kernel
theorem dX9_seam_102 : decode cX9_seam 102 = .ok (.iastore, 1) := by decide +kernel
theorem dX9_seam_103 : decode cX9_seam 103 = .ok (.aload_n 0, 1) := by decide +kernel
theorem dX9_seam_104 : decode cX9_seam 104 = .ok (.dup, 1) := by decide +kernel
theorem dX9_seam_105 : decode cX9_seam 105 = .ok (.getfield 135, 3) := by decide +kernel
theorem dX9_seam_108 : decode cX9_seam 108 = .ok (.iconst 1, 1) := by decide +kernel
theorem dX9_seam_109 : decode cX9_seam 109 = .ok (.iadd, 1) := by decide +kernel
theorem dX9_seam_110 : decode cX9_seam 110 = .ok (.putfield 135, 3) := by decide +kernel
theorem dX9_seam_113 : decode cX9_seam 113 = .ok (.aload_n 0, 1) := by decide +kernel
theorem dX9_seam_114 : decode cX9_seam 114 = .ok (.getfield 135, 3) := by decide +kernel
theorem dX9_seam_117 : decode cX9_seam 117 = .ok (.iconst 1, 1) := by decide +kernel
theorem dX9_seam_118 : decode cX9_seam 118 = .ok (.isub, 1) := by decide +kernel
theorem dX9_seam_119 : decode cX9_seam 119 = .ok (.ireturn, 1) := by decide +kernel
theorem dX9_seamOf_0 : decode cX9_seamOf 0 = .ok (.aload_n 0, 1) := by decide +kernel
theorem dX9_seamOf_1 : decode cX9_seamOf 1 = .ok (.getfield 38, 3) := by decide +kernel
theorem dX9_seamOf_4 : decode cX9_seamOf 4 = .ok (.iload_n 1, 1) := by decide +kernel
theorem dX9_seamOf_5 : decode cX9_seamOf 5 = .ok (.iaload, 1) := by decide +kernel
theorem dX9_seamOf_6 : decode cX9_seamOf 6 = .ok (.ifCond .ne 8, 3) := by decide +kernel
theorem dX9_seamOf_9 : decode cX9_seamOf 9 = .ok (.bipush 60, 2) := by decide +kernel
theorem dX9_seamOf_11 : decode cX9_seamOf 11 = .ok (.goto 20, 3) := by decide +kernel
theorem dX9_seamOf_14 : decode cX9_seamOf 14 = .ok (.aload_n 0, 1) := by decide +kernel
theorem dX9_seamOf_15 : decode cX9_seamOf 15 = .ok (.getfield 38, 3) := by decide +kernel
theorem dX9_seamOf_18 : decode cX9_seamOf 18 = .ok (.iload_n 1, 1) := by decide +kernel
theorem dX9_seamOf_19 : decode cX9_seamOf 19 = .ok (.iaload, 1) := by decide +kernel
theorem dX9_seamOf_20 : decode cX9_seamOf 20 = .ok (.iconst 1, 1) := by decide +kernel
theorem dX9_seamOf_21 : decode cX9_seamOf 21 = .ok (.if_icmp .ne 8, 3) := by decide +kernel
theorem dX9_seamOf_24 : decode cX9_seamOf 24 = .ok (.bipush 80, 2) := by decide +kernel
theorem dX9_seamOf_26 : decode cX9_seamOf 26 = .ok (.goto 5, 3) := by decide +kernel
theorem dX9_seamOf_29 : decode cX9_seamOf 29 = .ok (.bipush 40, 2) := by decide +kernel
theorem dX9_seamOf_31 : decode cX9_seamOf 31 = .ok (.istore_n 2, 1) := by decide +kernel
theorem dX9_seamOf_32 : decode cX9_seamOf 32 = .ok (.aload_n 0, 1) := by decide +kernel
theorem dX9_seamOf_33 : decode cX9_seamOf 33 = .ok (.aload_n 0, 1) := by decide +kernel
theorem dX9_seamOf_34 : decode cX9_seamOf 34 = .ok (.getfield 32, 3) := by decide +kernel
theorem dX9_seamOf_37 : decode cX9_seamOf 37 = .ok (.iload_n 1, 1) := by decide +kernel
theorem dX9_seamOf_38 : decode cX9_seamOf 38 = .ok (.iaload, 1) := by decide +kernel
theorem dX9_seamOf_39 : decode cX9_seamOf 39 = .ok (.invokevirtual 124, 3) := by decide +kernel
theorem dX9_seamOf_42 : decode cX9_seamOf 42 = .ok (.aload_n 0, 1) := by decide +kernel
theorem dX9_seamOf_43 : decode cX9_seamOf 43 = .ok (.aload_n 0, 1) := by decide +kernel
theorem dX9_seamOf_44 : decode cX9_seamOf 44 = .ok (.getfield 35, 3) := by decide +kernel
theorem dX9_seamOf_47 : decode cX9_seamOf 47 = .ok (.iload_n 1, 1) := by decide +kernel
theorem dX9_seamOf_48 : decode cX9_seamOf 48 = .ok (.iaload, 1) := by decide +kernel
theorem dX9_seamOf_49 : decode cX9_seamOf 49 = .ok (.invokevirtual 124, 3) := by decide +kernel
theorem dX9_seamOf_52 : decode cX9_seamOf 52 = .ok (.invokestatic 138, 3) := by decide +kernel
theorem dX9_seamOf_55 : decode cX9_seamOf 55 = .ok (.iload_n 2, 1) := by decide +kernel
theorem dX9_seamOf_56 : decode cX9_seamOf 56 = .ok (.i2l, 1) := by decide +kernel
theorem dX9_seamOf_57 : decode cX9_seamOf 57 = .ok (.lmul, 1) := by decide +kernel
theorem dX9_seamOf_58 : decode cX9_seamOf 58 = .ok (.ldc2_w 142, 3) := by decide +kernel
theorem dX9_seamOf_61 : decode cX9_seamOf 61 = .ok (.ldiv, 1) := by decide +kernel
theorem dX9_seamOf_62 : decode cX9_seamOf 62 = .ok (.lreturn, 1) := by decide +kernel
theorem dX9_rip_0 : decode cX9_rip 0 = .ok (.iload_n 1, 1) := by decide +kernel
theorem dX9_rip_1 : decode cX9_rip 1 = .ok (.iconst 0, 1) := by decide +kernel
theorem dX9_rip_2 : decode cX9_rip 2 = .ok (.aload_n 0, 1) := by decide +kernel
theorem dX9_rip_3 : decode cX9_rip 3 = .ok (.getfield 135, 3) := by decide +kernel
theorem dX9_rip_6 : decode cX9_rip 6 = .ok (.iconst 1, 1) := by decide +kernel
theorem dX9_rip_7 : decode cX9_rip 7 = .ok (.isub, 1) := by decide +kernel
theorem dX9_rip_8 : decode cX9_rip 8 = .ok (.invokestatic 103, 3) := by decide +kernel
theorem dX9_rip_11 : decode cX9_rip 11 = .ok (.ifCond .eq 16, 3) := by decide +kernel
theorem dX9_rip_14 : decode cX9_rip 14 = .ok (.aload_n 0, 1) := by decide +kernel
theorem dX9_rip_15 : decode cX9_rip 15 = .ok (.getfield 41, 3) := by decide +kernel
theorem dX9_rip_18 : decode cX9_rip 18 = .ok (.iload_n 1, 1) := by decide +kernel
theorem dX9_rip_19 : decode cX9_rip 19 = .ok (.baload, 1) := by decide +kernel
theorem dX9_rip_20 : decode cX9_rip 20 = .ok (.ifCond .ne 7, 3) := by decide +kernel
theorem dX9_rip_23 : decode cX9_rip 23 = .ok (.iconst 1, 1) := by decide +kernel
theorem dX9_rip_24 : decode cX9_rip 24 = .ok (.goto 4, 3) := by decide +kernel
theorem dX9_rip_27 : decode cX9_rip 27 = .ok (.iconst 0, 1) := by decide +kernel
theorem dX9_rip_28 : decode cX9_rip 28 = .ok (.istore_n 2, 1) := by decide +kernel
theorem dX9_rip_29 : decode cX9_rip 29 = .ok (.aload_n 0, 1) := by decide +kernel
theorem dX9_rip_30 : decode cX9_rip 30 = .ok (.iload_n 2, 1) := by decide +kernel
theorem dX9_rip_31 : decode cX9_rip 31 = .ok (.ifCond .eq 7, 3) := by decide +kernel
theorem dX9_rip_34 : decode cX9_rip 34 = .ok (.iconst 0, 1) := by decide +kernel
theorem dX9_rip_35 : decode cX9_rip 35 = .ok (.goto 4, 3) := by decide +kernel
theorem dX9_rip_38 : decode cX9_rip 38 = .ok (.iconst 1, 1) := by decide +kernel
theorem dX9_rip_39 : decode cX9_rip 39 = .ok (.invokevirtual 111, 3) := by decide +kernel
theorem dX9_rip_42 : decode cX9_rip 42 = .ok (.ifCond .ne 5, 3) := by decide +kernel
theorem dX9_rip_45 : decode cX9_rip 45 = .ok (.lconst 0, 1) := by decide +kernel
theorem dX9_rip_46 : decode cX9_rip 46 = .ok (.lreturn, 1) := by decide +kernel
theorem dX9_rip_47 : decode cX9_rip 47 = .ok (.aload_n 0, 1) := by decide +kernel
theorem dX9_rip_48 : decode cX9_rip 48 = .ok (.getfield 41, 3) := by decide +kernel
theorem dX9_rip_51 : decode cX9_rip 51 = .ok (.iload_n 1, 1) := by decide +kernel
theorem dX9_rip_52 : decode cX9_rip 52 = .ok (.iconst 1, 1) := by decide +kernel
theorem dX9_rip_53 : decode cX9_rip 53 = .ok (.bastore, 1) := by decide +kernel
theorem dX9_rip_54 : decode cX9_rip 54 = .ok (.aload_n 0, 1) := by decide +kernel
theorem dX9_rip_55 : decode cX9_rip 55 = .ok (.iload_n 1, 1) := by decide +kernel
theorem dX9_rip_56 : decode cX9_rip 56 = .ok (.invokevirtual 144, 3) := by decide +kernel
theorem dX9_rip_59 : decode cX9_rip 59 = .ok (.lreturn, 1) := by decide +kernel
theorem dX9_comes_0 : decode cX9_comes 0 = .ok (.aload_n 0, 1) := by decide +kernel
theorem dX9_comes_1 : decode cX9_comes 1 = .ok (.getfield 44, 3) := by decide +kernel
theorem dX9_comes_4 : decode cX9_comes 4 = .ok (.iload_n 1, 1) := by decide +kernel
theorem dX9_comes_5 : decode cX9_comes 5 = .ok (.laload, 1) := by decide +kernel
theorem dX9_comes_6 : decode cX9_comes 6 = .ok (.aload_n 0, 1) := by decide +kernel
theorem dX9_comes_7 : decode cX9_comes 7 = .ok (.iload_n 3, 1) := by decide +kernel
theorem dX9_comes_8 : decode cX9_comes 8 = .ok (.invokevirtual 144, 3) := by decide +kernel
theorem dX9_comes_11 : decode cX9_comes 11 = .ok (.aload_n 0, 1) := by decide +kernel
theorem dX9_comes_12 : decode cX9_comes 12 = .ok (.iload_n 2, 1) := by decide +kernel
theorem dX9_comes_13 : decode cX9_comes 13 = .ok (.invokevirtual 124, 3) := by decide +kernel
theorem dX9_comes_16 : decode cX9_comes 16 = .ok (.invokestatic 138, 3) := by decide +kernel
theorem dX9_comes_19 : decode cX9_comes 19 = .ok (.invokestatic 138, 3) := by decide +kernel
theorem dX9_comes_22 : decode cX9_comes 22 = .ok (.lstore 4, 2) := by decide +kernel
theorem dX9_comes_24 : decode cX9_comes 24 = .ok (.lload 4, 2) := by decide +kernel
theorem dX9_comes_26 : decode cX9_comes 26 = .ok (.aload_n 0, 1) := by decide +kernel
theorem dX9_comes_27 : decode cX9_comes 27 = .ok (.getfield 44, 3) := by decide +kernel
theorem dX9_comes_30 : decode cX9_comes 30 = .ok (.iload_n 2, 1) := by decide +kernel
theorem dX9_comes_31 : decode cX9_comes 31 = .ok (.laload, 1) := by decide +kernel
theorem dX9_comes_32 : decode cX9_comes 32 = .ok (.lcmp, 1) := by decide +kernel
theorem dX9_comes_33 : decode cX9_comes 33 = .ok (.ifCond .le 7, 3) := by decide +kernel
theorem dX9_comes_36 : decode cX9_comes 36 = .ok (.iconst 1, 1) := by decide +kernel
theorem dX9_comes_37 : decode cX9_comes 37 = .ok (.goto 4, 3) := by decide +kernel
theorem dX9_comes_40 : decode cX9_comes 40 = .ok (.iconst 0, 1) := by decide +kernel
theorem dX9_comes_41 : decode cX9_comes 41 = .ok (.istore 6, 2) := by decide +kernel
theorem dX9_comes_43 : decode cX9_comes 43 = .ok (.aload_n 0, 1) := by decide +kernel
theorem dX9_comes_44 : decode cX9_comes 44 = .ok (.getfield 44, 3) := by decide +kernel
theorem dX9_comes_47 : decode cX9_comes 47 = .ok (.iload_n 2, 1) := by decide +kernel
theorem dX9_comes_48 : decode cX9_comes 48 = .ok (.iload 6, 2) := by decide +kernel
theorem dX9_comes_50 : decode cX9_comes 50 = .ok (.ifCond .eq 8, 3) := by decide +kernel
theorem dX9_comes_53 : decode cX9_comes 53 = .ok (.lload 4, 2) := by decide +kernel
theorem dX9_comes_55 : decode cX9_comes 55 = .ok (.goto 9, 3) := by decide +kernel
theorem dX9_comes_58 : decode cX9_comes 58 = .ok (.aload_n 0, 1) := by decide +kernel
theorem dX9_comes_59 : decode cX9_comes 59 = .ok (.getfield 44, 3) := by decide +kernel
theorem dX9_comes_62 : decode cX9_comes 62 = .ok (.iload_n 2, 1) := by decide +kernel
theorem dX9_comes_63 : decode cX9_comes 63 = .ok (.laload, 1) := by decide +kernel
theorem dX9_comes_64 : decode cX9_comes 64 = .ok (.lastore, 1) := by decide +kernel
theorem dX9_comes_65 : decode cX9_comes 65 = .ok (.iload 6, 2) := by decide +kernel
theorem dX9_comes_67 : decode cX9_comes 67 = .ok (.ireturn, 1) := by decide +kernel
theorem dX9_bearsOf_0 : decode cX9_bearsOf 0 = .ok (.iconst 0, 1) := by decide +kernel
theorem dX9_bearsOf_1 : decode cX9_bearsOf 1 = .ok (.istore_n 3, 1) := by decide +kernel
theorem dX9_bearsOf_2 : decode cX9_bearsOf 2 = .ok (.iload_n 3, 1) := by decide +kernel
theorem dX9_bearsOf_3 : decode cX9_bearsOf 3 = .ok (.aload_n 0, 1) := by decide +kernel
theorem dX9_bearsOf_4 : decode cX9_bearsOf 4 = .ok (.getfield 107, 3) := by decide +kernel
theorem dX9_bearsOf_7 : decode cX9_bearsOf 7 = .ok (.if_icmp .ge 29, 3) := by decide +kernel
theorem dX9_bearsOf_10 : decode cX9_bearsOf 10 = .ok (.aload_n 0, 1) := by decide +kernel
theorem dX9_bearsOf_11 : decode cX9_bearsOf 11 = .ok (.getfield 44, 3) := by decide +kernel
theorem dX9_bearsOf_14 : decode cX9_bearsOf 14 = .ok (.iload_n 3, 1) := by decide +kernel
theorem dX9_bearsOf_15 : decode cX9_bearsOf 15 = .ok (.iload_n 3, 1) := by decide +kernel
theorem dX9_bearsOf_16 : decode cX9_bearsOf 16 = .ok (.iload_n 1, 1) := by decide +kernel
theorem dX9_bearsOf_17 : decode cX9_bearsOf 17 = .ok (.if_icmp .ne 11, 3) := by decide +kernel
theorem dX9_bearsOf_20 : decode cX9_bearsOf 20 = .ok (.aload_n 0, 1) := by decide +kernel
theorem dX9_bearsOf_21 : decode cX9_bearsOf 21 = .ok (.iload_n 1, 1) := by decide +kernel
theorem dX9_bearsOf_22 : decode cX9_bearsOf 22 = .ok (.invokevirtual 124, 3) := by decide +kernel
theorem dX9_bearsOf_25 : decode cX9_bearsOf 25 = .ok (.goto 4, 3) := by decide +kernel
theorem dX9_bearsOf_28 : decode cX9_bearsOf 28 = .ok (.lconst 0, 1) := by decide +kernel
theorem dX9_bearsOf_29 : decode cX9_bearsOf 29 = .ok (.lastore, 1) := by decide +kernel
theorem dX9_bearsOf_30 : decode cX9_bearsOf 30 = .ok (.iinc 3 1, 3) := by decide +kernel
theorem dX9_bearsOf_33 : decode cX9_bearsOf 33 = .ok (.goto (-31), 3) := by decide +kernel
theorem dX9_bearsOf_36 : decode cX9_bearsOf 36 = .ok (.iconst 1, 1) := by decide +kernel
theorem dX9_bearsOf_37 : decode cX9_bearsOf 37 = .ok (.istore_n 3, 1) := by decide +kernel
theorem dX9_bearsOf_38 : decode cX9_bearsOf 38 = .ok (.iload_n 3, 1) := by decide +kernel
theorem dX9_bearsOf_39 : decode cX9_bearsOf 39 = .ok (.ifCond .eq 100, 3) := by decide +kernel
theorem dX9_bearsOf_42 : decode cX9_bearsOf 42 = .ok (.iconst 0, 1) := by decide +kernel
theorem dX9_bearsOf_43 : decode cX9_bearsOf 43 = .ok (.istore_n 3, 1) := by decide +kernel
theorem dX9_bearsOf_44 : decode cX9_bearsOf 44 = .ok (.iconst 0, 1) := by decide +kernel
theorem dX9_bearsOf_45 : decode cX9_bearsOf 45 = .ok (.istore 4, 2) := by decide +kernel
theorem dX9_bearsOf_47 : decode cX9_bearsOf 47 = .ok (.iload 4, 2) := by decide +kernel
theorem dX9_bearsOf_49 : decode cX9_bearsOf 49 = .ok (.aload_n 0, 1) := by decide +kernel
theorem dX9_bearsOf_50 : decode cX9_bearsOf 50 = .ok (.getfield 135, 3) := by decide +kernel
theorem dX9_bearsOf_53 : decode cX9_bearsOf 53 = .ok (.if_icmp .ge 83, 3) := by decide +kernel
theorem dX9_bearsOf_56 : decode cX9_bearsOf 56 = .ok (.aload_n 0, 1) := by decide +kernel
theorem dX9_bearsOf_57 : decode cX9_bearsOf 57 = .ok (.getfield 41, 3) := by decide +kernel
theorem dX9_bearsOf_60 : decode cX9_bearsOf 60 = .ok (.iload 4, 2) := by decide +kernel
theorem dX9_bearsOf_62 : decode cX9_bearsOf 62 = .ok (.baload, 1) := by decide +kernel
theorem dX9_bearsOf_63 : decode cX9_bearsOf 63 = .ok (.ifCond .ne 67, 3) := by decide +kernel
theorem dX9_bearsOf_66 : decode cX9_bearsOf 66 = .ok (.aload_n 0, 1) := by decide +kernel
theorem dX9_bearsOf_67 : decode cX9_bearsOf 67 = .ok (.aload_n 0, 1) := by decide +kernel
theorem dX9_bearsOf_68 : decode cX9_bearsOf 68 = .ok (.getfield 32, 3) := by decide +kernel
theorem dX9_bearsOf_71 : decode cX9_bearsOf 71 = .ok (.iload 4, 2) := by decide +kernel
theorem dX9_bearsOf_73 : decode cX9_bearsOf 73 = .ok (.iaload, 1) := by decide +kernel
theorem dX9_bearsOf_74 : decode cX9_bearsOf 74 = .ok (.aload_n 0, 1) := by decide +kernel
theorem dX9_bearsOf_75 : decode cX9_bearsOf 75 = .ok (.getfield 35, 3) := by decide +kernel
theorem dX9_bearsOf_78 : decode cX9_bearsOf 78 = .ok (.iload 4, 2) := by decide +kernel
theorem dX9_bearsOf_80 : decode cX9_bearsOf 80 = .ok (.iaload, 1) := by decide +kernel
theorem dX9_bearsOf_81 : decode cX9_bearsOf 81 = .ok (.iload 4, 2) := by decide +kernel
theorem dX9_bearsOf_83 : decode cX9_bearsOf 83 = .ok (.invokevirtual 147, 3) := by decide +kernel
theorem dX9_bearsOf_86 : decode cX9_bearsOf 86 = .ok (.istore 5, 2) := by decide +kernel
theorem dX9_bearsOf_88 : decode cX9_bearsOf 88 = .ok (.aload_n 0, 1) := by decide +kernel
theorem dX9_bearsOf_89 : decode cX9_bearsOf 89 = .ok (.aload_n 0, 1) := by decide +kernel
theorem dX9_bearsOf_90 : decode cX9_bearsOf 90 = .ok (.getfield 35, 3) := by decide +kernel
theorem dX9_bearsOf_93 : decode cX9_bearsOf 93 = .ok (.iload 4, 2) := by decide +kernel
theorem dX9_bearsOf_95 : decode cX9_bearsOf 95 = .ok (.iaload, 1) := by decide +kernel
theorem dX9_bearsOf_96 : decode cX9_bearsOf 96 = .ok (.aload_n 0, 1) := by decide +kernel
theorem dX9_bearsOf_97 : decode cX9_bearsOf 97 = .ok (.getfield 32, 3) := by decide +kernel
theorem dX9_bearsOf_100 : decode cX9_bearsOf 100 = .ok (.iload 4, 2) := by decide +kernel
theorem dX9_bearsOf_102 : decode cX9_bearsOf 102 = .ok (.iaload, 1) := by decide +kernel
theorem dX9_bearsOf_103 : decode cX9_bearsOf 103 = .ok (.iload 4, 2) := by decide +kernel
theorem dX9_bearsOf_105 : decode cX9_bearsOf 105 = .ok (.invokevirtual 147, 3) := by decide +kernel
theorem dX9_bearsOf_108 : decode cX9_bearsOf 108 = .ok (.istore 6, 2) := by decide +kernel
theorem dX9_bearsOf_110 : decode cX9_bearsOf 110 = .ok (.iload_n 3, 1) := by decide +kernel
theorem dX9_bearsOf_111 : decode cX9_bearsOf 111 = .ok (.ifCond .ne 13, 3) := by decide +kernel
theorem dX9_bearsOf_114 : decode cX9_bearsOf 114 = .ok (.iload 5, 2) := by decide +kernel
theorem dX9_bearsOf_116 : decode cX9_bearsOf 116 = .ok (.ifCond .ne 8, 3) := by decide +kernel
theorem dX9_bearsOf_119 : decode cX9_bearsOf 119 = .ok (.iload 6, 2) := by decide +kernel
theorem dX9_bearsOf_121 : decode cX9_bearsOf 121 = .ok (.ifCond .eq 7, 3) := by decide +kernel
theorem dX9_bearsOf_124 : decode cX9_bearsOf 124 = .ok (.iconst 1, 1) := by decide +kernel
theorem dX9_bearsOf_125 : decode cX9_bearsOf 125 = .ok (.goto 4, 3) := by decide +kernel
theorem dX9_bearsOf_128 : decode cX9_bearsOf 128 = .ok (.iconst 0, 1) := by decide +kernel
theorem dX9_bearsOf_129 : decode cX9_bearsOf 129 = .ok (.istore_n 3, 1) := by decide +kernel
theorem dX9_bearsOf_130 : decode cX9_bearsOf 130 = .ok (.iinc 4 1, 3) := by decide +kernel
theorem dX9_bearsOf_133 : decode cX9_bearsOf 133 = .ok (.goto (-86), 3) := by decide +kernel
theorem dX9_bearsOf_136 : decode cX9_bearsOf 136 = .ok (.goto (-98), 3) := by decide +kernel
theorem dX9_bearsOf_139 : decode cX9_bearsOf 139 = .ok (.aload_n 0, 1) := by decide +kernel
theorem dX9_bearsOf_140 : decode cX9_bearsOf 140 = .ok (.getfield 44, 3) := by decide +kernel
theorem dX9_bearsOf_143 : decode cX9_bearsOf 143 = .ok (.iload_n 2, 1) := by decide +kernel
theorem dX9_bearsOf_144 : decode cX9_bearsOf 144 = .ok (.laload, 1) := by decide +kernel
theorem dX9_bearsOf_145 : decode cX9_bearsOf 145 = .ok (.lreturn, 1) := by decide +kernel
theorem dX9_bears_0 : decode cX9_bears 0 = .ok (.aload_n 0, 1) := by decide +kernel
theorem dX9_bears_1 : decode cX9_bears 1 = .ok (.aload_n 0, 1) := by decide +kernel
theorem dX9_bears_2 : decode cX9_bears 2 = .ok (.iload_n 1, 1) := by decide +kernel
theorem dX9_bears_3 : decode cX9_bears 3 = .ok (.invokevirtual 121, 3) := by decide +kernel
theorem dX9_bears_6 : decode cX9_bears 6 = .ok (.ifCond .eq 15, 3) := by decide +kernel
theorem dX9_bears_9 : decode cX9_bears 9 = .ok (.aload_n 0, 1) := by decide +kernel
theorem dX9_bears_10 : decode cX9_bears 10 = .ok (.iload_n 2, 1) := by decide +kernel
theorem dX9_bears_11 : decode cX9_bears 11 = .ok (.invokevirtual 121, 3) := by decide +kernel
theorem dX9_bears_14 : decode cX9_bears 14 = .ok (.ifCond .eq 7, 3) := by decide +kernel
theorem dX9_bears_17 : decode cX9_bears 17 = .ok (.iconst 0, 1) := by decide +kernel
theorem dX9_bears_18 : decode cX9_bears 18 = .ok (.goto 4, 3) := by decide +kernel
theorem dX9_bears_21 : decode cX9_bears 21 = .ok (.iconst 1, 1) := by decide +kernel
theorem dX9_bears_22 : decode cX9_bears 22 = .ok (.invokevirtual 111, 3) := by decide +kernel
theorem dX9_bears_25 : decode cX9_bears 25 = .ok (.ifCond .eq 12, 3) := by decide +kernel
theorem dX9_bears_28 : decode cX9_bears 28 = .ok (.aload_n 0, 1) := by decide +kernel
theorem dX9_bears_29 : decode cX9_bears 29 = .ok (.iload_n 1, 1) := by decide +kernel
theorem dX9_bears_30 : decode cX9_bears 30 = .ok (.iload_n 2, 1) := by decide +kernel
theorem dX9_bears_31 : decode cX9_bears 31 = .ok (.invokevirtual 150, 3) := by decide +kernel
theorem dX9_bears_34 : decode cX9_bears 34 = .ok (.goto 4, 3) := by decide +kernel
theorem dX9_bears_37 : decode cX9_bears 37 = .ok (.lconst 0, 1) := by decide +kernel
theorem dX9_bears_38 : decode cX9_bears 38 = .ok (.lreturn, 1) := by decide +kernel
theorem dX9_bearsAnew_0 : decode cX9_bearsAnew 0 = .ok (.aload_n 0, 1) := by decide +kernel
theorem dX9_bearsAnew_1 : decode cX9_bearsAnew 1 = .ok (.aload_n 0, 1) := by decide +kernel
theorem dX9_bearsAnew_2 : decode cX9_bearsAnew 2 = .ok (.iload_n 1, 1) := by decide +kernel
theorem dX9_bearsAnew_3 : decode cX9_bearsAnew 3 = .ok (.invokevirtual 121, 3) := by decide +kernel
theorem dX9_bearsAnew_6 : decode cX9_bearsAnew 6 = .ok (.ifCond .eq 15, 3) := by decide +kernel
theorem dX9_bearsAnew_9 : decode cX9_bearsAnew 9 = .ok (.aload_n 0, 1) := by decide +kernel
theorem dX9_bearsAnew_10 : decode cX9_bearsAnew 10 = .ok (.iload_n 2, 1) := by decide +kernel
theorem dX9_bearsAnew_11 : decode cX9_bearsAnew 11 = .ok (.invokevirtual 121, 3) := by decide +kernel
theorem dX9_bearsAnew_14 : decode cX9_bearsAnew 14 = .ok (.ifCond .eq 7, 3) := by decide +kernel
theorem dX9_bearsAnew_17 : decode cX9_bearsAnew 17 = .ok (.iconst 0, 1) := by decide +kernel
theorem dX9_bearsAnew_18 : decode cX9_bearsAnew 18 = .ok (.goto 4, 3) := by decide +kernel
theorem dX9_bearsAnew_21 : decode cX9_bearsAnew 21 = .ok (.iconst 1, 1) := by decide +kernel
theorem dX9_bearsAnew_22 : decode cX9_bearsAnew 22 = .ok (.invokevirtual 111, 3) := by decide +kernel
theorem dX9_bearsAnew_25 : decode cX9_bearsAnew 25 = .ok (.ifCond .eq 12, 3) := by decide +kernel
theorem dX9_bearsAnew_28 : decode cX9_bearsAnew 28 = .ok (.aload_n 0, 1) := by decide +kernel
theorem dX9_bearsAnew_29 : decode cX9_bearsAnew 29 = .ok (.iload_n 1, 1) := by decide +kernel
theorem dX9_bearsAnew_30 : decode cX9_bearsAnew 30 = .ok (.iload_n 2, 1) := by decide +kernel
theorem dX9_bearsAnew_31 : decode cX9_bearsAnew 31 = .ok (.invokevirtual 150, 3) := by decide +kernel
theorem dX9_bearsAnew_34 : decode cX9_bearsAnew 34 = .ok (.goto 4, 3) := by decide +kernel
theorem dX9_bearsAnew_37 : decode cX9_bearsAnew 37 = .ok (.lconst 0, 1) := by decide +kernel
theorem dX9_bearsAnew_38 : decode cX9_bearsAnew 38 = .ok (.lreturn, 1) := by decide +kernel
theorem dX9_isKnot_0 : decode cX9_isKnot 0 = .ok (.iload_n 0, 1) := by decide +kernel
theorem dX9_isKnot_1 : decode cX9_isKnot 1 = .ok (.iconst 0, 1) := by decide +kernel
theorem dX9_isKnot_2 : decode cX9_isKnot 2 = .ok (.bipush 35, 2) := by decide +kernel
theorem dX9_isKnot_4 : decode cX9_isKnot 4 = .ok (.invokestatic 103, 3) := by decide +kernel
theorem dX9_isKnot_7 : decode cX9_isKnot 7 = .ok (.ireturn, 1) := by decide +kernel
theorem dX9_knot_0 : decode cX9_knot 0 = .ok (.aload_n 0, 1) := by decide +kernel
theorem dX9_knot_1 : decode cX9_knot 1 = .ok (.iload_n 1, 1) := by decide +kernel
theorem dX9_knot_2 : decode cX9_knot 2 = .ok (.invokestatic 154, 3) := by decide +kernel
theorem dX9_knot_5 : decode cX9_knot 5 = .ok (.ifCond .ne 7, 3) := by decide +kernel
theorem dX9_knot_8 : decode cX9_knot 8 = .ok (.iconst 1, 1) := by decide +kernel
theorem dX9_knot_9 : decode cX9_knot 9 = .ok (.goto 21, 3) := by decide +kernel
theorem dX9_knot_12 : decode cX9_knot 12 = .ok (.iload_n 2, 1) := by decide +kernel
theorem dX9_knot_13 : decode cX9_knot 13 = .ok (.sipush (-10000), 3) := by decide +kernel
theorem dX9_knot_16 : decode cX9_knot 16 = .ok (.sipush 10000, 3) := by decide +kernel
theorem dX9_knot_19 : decode cX9_knot 19 = .ok (.invokestatic 103, 3) := by decide +kernel
theorem dX9_knot_22 : decode cX9_knot 22 = .ok (.ifCond .eq 7, 3) := by decide +kernel
theorem dX9_knot_25 : decode cX9_knot 25 = .ok (.iconst 0, 1) := by decide +kernel
theorem dX9_knot_26 : decode cX9_knot 26 = .ok (.goto 4, 3) := by decide +kernel
theorem dX9_knot_29 : decode cX9_knot 29 = .ok (.iconst 2, 1) := by decide +kernel
theorem dX9_knot_30 : decode cX9_knot 30 = .ok (.invokevirtual 111, 3) := by decide +kernel
theorem dX9_knot_33 : decode cX9_knot 33 = .ok (.ifCond .ne 5, 3) := by decide +kernel
theorem dX9_knot_36 : decode cX9_knot 36 = .ok (.iconst 0, 1) := by decide +kernel
theorem dX9_knot_37 : decode cX9_knot 37 = .ok (.ireturn, 1) := by decide +kernel
theorem dX9_knot_38 : decode cX9_knot 38 = .ok (.aload_n 0, 1) := by decide +kernel
theorem dX9_knot_39 : decode cX9_knot 39 = .ok (.getfield 48, 3) := by decide +kernel
theorem dX9_knot_42 : decode cX9_knot 42 = .ok (.iload_n 1, 1) := by decide +kernel
theorem dX9_knot_43 : decode cX9_knot 43 = .ok (.iaload, 1) := by decide +kernel
theorem dX9_knot_44 : decode cX9_knot 44 = .ok (.istore 4, 2) := by decide +kernel
theorem dX9_knot_46 : decode cX9_knot 46 = .ok (.aload_n 0, 1) := by decide +kernel
theorem dX9_knot_47 : decode cX9_knot 47 = .ok (.getfield 48, 3) := by decide +kernel
theorem dX9_knot_50 : decode cX9_knot 50 = .ok (.iload_n 1, 1) := by decide +kernel
theorem dX9_knot_51 : decode cX9_knot 51 = .ok (.iload_n 2, 1) := by decide +kernel
theorem dX9_knot_52 : decode cX9_knot 52 = .ok (.iastore, 1) := by decide +kernel
theorem dX9_knot_53 : decode cX9_knot 53 = .ok (.aload_n 0, 1) := by decide +kernel
theorem dX9_knot_54 : decode cX9_knot 54 = .ok (.getfield 54, 3) := by decide +kernel
theorem dX9_knot_57 : decode cX9_knot 57 = .ok (.iload_n 1, 1) := by decide +kernel
theorem dX9_knot_58 : decode cX9_knot 58 = .ok (.iload_n 3, 1) := by decide +kernel
theorem dX9_knot_59 : decode cX9_knot 59 = .ok (.bastore, 1) := by decide +kernel
theorem dX9_knot_60 : decode cX9_knot 60 = .ok (.iload 4, 2) := by decide +kernel
theorem dX9_knot_62 : decode cX9_knot 62 = .ok (.ireturn, 1) := by decide +kernel
theorem dX9_load_0 : decode cX9_load 0 = .ok (.aload_n 0, 1) := by decide +kernel
theorem dX9_load_1 : decode cX9_load 1 = .ok (.iload_n 1, 1) := by decide +kernel
theorem dX9_load_2 : decode cX9_load 2 = .ok (.iconst 0, 1) := by decide +kernel
theorem dX9_load_3 : decode cX9_load 3 = .ok (.bipush 100, 2) := by decide +kernel
theorem dX9_load_5 : decode cX9_load 5 = .ok (.invokestatic 103, 3) := by decide +kernel
theorem dX9_load_8 : decode cX9_load 8 = .ok (.ifCond .eq 7, 3) := by decide +kernel
theorem dX9_load_11 : decode cX9_load 11 = .ok (.iconst 0, 1) := by decide +kernel
theorem dX9_load_12 : decode cX9_load 12 = .ok (.goto 4, 3) := by decide +kernel
theorem dX9_load_15 : decode cX9_load 15 = .ok (.iconst 1, 1) := by decide +kernel
theorem dX9_load_16 : decode cX9_load 16 = .ok (.invokevirtual 111, 3) := by decide +kernel
theorem dX9_load_19 : decode cX9_load 19 = .ok (.ifCond .ne 5, 3) := by decide +kernel
theorem dX9_load_22 : decode cX9_load 22 = .ok (.iconst 0, 1) := by decide +kernel
theorem dX9_load_23 : decode cX9_load 23 = .ok (.ireturn, 1) := by decide +kernel
theorem dX9_load_24 : decode cX9_load 24 = .ok (.aload_n 0, 1) := by decide +kernel
theorem dX9_load_25 : decode cX9_load 25 = .ok (.getfield 157, 3) := by decide +kernel
theorem dX9_load_28 : decode cX9_load 28 = .ok (.istore_n 2, 1) := by decide +kernel
theorem dX9_load_29 : decode cX9_load 29 = .ok (.aload_n 0, 1) := by decide +kernel
theorem dX9_load_30 : decode cX9_load 30 = .ok (.iload_n 1, 1) := by decide +kernel
theorem dX9_load_31 : decode cX9_load 31 = .ok (.putfield 157, 3) := by decide +kernel
theorem dX9_load_34 : decode cX9_load 34 = .ok (.iload_n 2, 1) := by decide +kernel
theorem dX9_load_35 : decode cX9_load 35 = .ok (.ireturn, 1) := by decide +kernel
theorem dX9_beside_0 : decode cX9_beside 0 = .ok (.iload_n 0, 1) := by decide +kernel
theorem dX9_beside_1 : decode cX9_beside 1 = .ok (.bipush 6, 2) := by decide +kernel
theorem dX9_beside_3 : decode cX9_beside 3 = .ok (.idiv, 1) := by decide +kernel
theorem dX9_beside_4 : decode cX9_beside 4 = .ok (.iload_n 1, 1) := by decide +kernel
theorem dX9_beside_5 : decode cX9_beside 5 = .ok (.ifCond .ne 7, 3) := by decide +kernel
theorem dX9_beside_8 : decode cX9_beside 8 = .ok (.iconst (-1), 1) := by decide +kernel
theorem dX9_beside_9 : decode cX9_beside 9 = .ok (.goto 13, 3) := by decide +kernel
theorem dX9_beside_12 : decode cX9_beside 12 = .ok (.iload_n 1, 1) := by decide +kernel
theorem dX9_beside_13 : decode cX9_beside 13 = .ok (.iconst 1, 1) := by decide +kernel
theorem dX9_beside_14 : decode cX9_beside 14 = .ok (.if_icmp .ne 7, 3) := by decide +kernel
theorem dX9_beside_17 : decode cX9_beside 17 = .ok (.iconst 1, 1) := by decide +kernel
theorem dX9_beside_18 : decode cX9_beside 18 = .ok (.goto 4, 3) := by decide +kernel
theorem dX9_beside_21 : decode cX9_beside 21 = .ok (.iconst 0, 1) := by decide +kernel
theorem dX9_beside_22 : decode cX9_beside 22 = .ok (.iadd, 1) := by decide +kernel
theorem dX9_beside_23 : decode cX9_beside 23 = .ok (.istore_n 2, 1) := by decide +kernel
theorem dX9_beside_24 : decode cX9_beside 24 = .ok (.iload_n 0, 1) := by decide +kernel
theorem dX9_beside_25 : decode cX9_beside 25 = .ok (.bipush 6, 2) := by decide +kernel
theorem dX9_beside_27 : decode cX9_beside 27 = .ok (.irem, 1) := by decide +kernel
theorem dX9_beside_28 : decode cX9_beside 28 = .ok (.iload_n 1, 1) := by decide +kernel
theorem dX9_beside_29 : decode cX9_beside 29 = .ok (.iconst 2, 1) := by decide +kernel
theorem dX9_beside_30 : decode cX9_beside 30 = .ok (.if_icmp .ne 7, 3) := by decide +kernel
theorem dX9_beside_33 : decode cX9_beside 33 = .ok (.iconst (-1), 1) := by decide +kernel
theorem dX9_beside_34 : decode cX9_beside 34 = .ok (.goto 13, 3) := by decide +kernel
theorem dX9_beside_37 : decode cX9_beside 37 = .ok (.iload_n 1, 1) := by decide +kernel
theorem dX9_beside_38 : decode cX9_beside 38 = .ok (.iconst 3, 1) := by decide +kernel
theorem dX9_beside_39 : decode cX9_beside 39 = .ok (.if_icmp .ne 7, 3) := by decide +kernel
theorem dX9_beside_42 : decode cX9_beside 42 = .ok (.iconst 1, 1) := by decide +kernel
theorem dX9_beside_43 : decode cX9_beside 43 = .ok (.goto 4, 3) := by decide +kernel
theorem dX9_beside_46 : decode cX9_beside 46 = .ok (.iconst 0, 1) := by decide +kernel
theorem dX9_beside_47 : decode cX9_beside 47 = .ok (.iadd, 1) := by decide +kernel
theorem dX9_beside_48 : decode cX9_beside 48 = .ok (.istore_n 3, 1) := by decide +kernel
theorem dX9_beside_49 : decode cX9_beside 49 = .ok (.iload_n 2, 1) := by decide +kernel
theorem dX9_beside_50 : decode cX9_beside 50 = .ok (.iconst 0, 1) := by decide +kernel
theorem dX9_beside_51 : decode cX9_beside 51 = .ok (.iconst 5, 1) := by decide +kernel
theorem dX9_beside_52 : decode cX9_beside 52 = .ok (.invokestatic 103, 3) := by decide +kernel
theorem dX9_beside_55 : decode cX9_beside 55 = .ok (.ifCond .eq 21, 3) := by decide +kernel
theorem dX9_beside_58 : decode cX9_beside 58 = .ok (.iload_n 3, 1) := by decide +kernel
theorem dX9_beside_59 : decode cX9_beside 59 = .ok (.iconst 0, 1) := by decide +kernel
theorem dX9_beside_60 : decode cX9_beside 60 = .ok (.iconst 5, 1) := by decide +kernel
theorem dX9_beside_61 : decode cX9_beside 61 = .ok (.invokestatic 103, 3) := by decide +kernel
theorem dX9_beside_64 : decode cX9_beside 64 = .ok (.ifCond .eq 12, 3) := by decide +kernel
theorem dX9_beside_67 : decode cX9_beside 67 = .ok (.bipush 6, 2) := by decide +kernel
theorem dX9_beside_69 : decode cX9_beside 69 = .ok (.iload_n 2, 1) := by decide +kernel
theorem dX9_beside_70 : decode cX9_beside 70 = .ok (.imul, 1) := by decide +kernel
theorem dX9_beside_71 : decode cX9_beside 71 = .ok (.iload_n 3, 1) := by decide +kernel
theorem dX9_beside_72 : decode cX9_beside 72 = .ok (.iadd, 1) := by decide +kernel
theorem dX9_beside_73 : decode cX9_beside 73 = .ok (.goto 4, 3) := by decide +kernel
theorem dX9_beside_76 : decode cX9_beside 76 = .ok (.iconst (-1), 1) := by decide +kernel
theorem dX9_beside_77 : decode cX9_beside 77 = .ok (.ireturn, 1) := by decide +kernel
theorem dX9_comesTo_0 : decode cX9_comesTo 0 = .ok (.iconst 0, 1) := by decide +kernel
theorem dX9_comesTo_1 : decode cX9_comesTo 1 = .ok (.istore_n 2, 1) := by decide +kernel
theorem dX9_comesTo_2 : decode cX9_comesTo 2 = .ok (.iconst 0, 1) := by decide +kernel
theorem dX9_comesTo_3 : decode cX9_comesTo 3 = .ok (.istore_n 3, 1) := by decide +kernel
theorem dX9_comesTo_4 : decode cX9_comesTo 4 = .ok (.iconst 0, 1) := by decide +kernel
theorem dX9_comesTo_5 : decode cX9_comesTo 5 = .ok (.istore 4, 2) := by decide +kernel
theorem dX9_comesTo_7 : decode cX9_comesTo 7 = .ok (.iconst 0, 1) := by decide +kernel
theorem dX9_comesTo_8 : decode cX9_comesTo 8 = .ok (.istore 5, 2) := by decide +kernel
theorem dX9_comesTo_10 : decode cX9_comesTo 10 = .ok (.iload 5, 2) := by decide +kernel
theorem dX9_comesTo_12 : decode cX9_comesTo 12 = .ok (.iconst 4, 1) := by decide +kernel
theorem dX9_comesTo_13 : decode cX9_comesTo 13 = .ok (.if_icmp .ge 66, 3) := by decide +kernel
theorem dX9_comesTo_16 : decode cX9_comesTo 16 = .ok (.iload_n 1, 1) := by decide +kernel
theorem dX9_comesTo_17 : decode cX9_comesTo 17 = .ok (.iload 5, 2) := by decide +kernel
theorem dX9_comesTo_19 : decode cX9_comesTo 19 = .ok (.invokestatic 160, 3) := by decide +kernel
theorem dX9_comesTo_22 : decode cX9_comesTo 22 = .ok (.istore 6, 2) := by decide +kernel
theorem dX9_comesTo_24 : decode cX9_comesTo 24 = .ok (.iload 6, 2) := by decide +kernel
theorem dX9_comesTo_26 : decode cX9_comesTo 26 = .ok (.iconst (-1), 1) := by decide +kernel
theorem dX9_comesTo_27 : decode cX9_comesTo 27 = .ok (.if_icmp .eq 46, 3) := by decide +kernel
theorem dX9_comesTo_30 : decode cX9_comesTo 30 = .ok (.iload_n 2, 1) := by decide +kernel
theorem dX9_comesTo_31 : decode cX9_comesTo 31 = .ok (.aload_n 0, 1) := by decide +kernel
theorem dX9_comesTo_32 : decode cX9_comesTo 32 = .ok (.getfield 48, 3) := by decide +kernel
theorem dX9_comesTo_35 : decode cX9_comesTo 35 = .ok (.iload 6, 2) := by decide +kernel
theorem dX9_comesTo_37 : decode cX9_comesTo 37 = .ok (.iaload, 1) := by decide +kernel
theorem dX9_comesTo_38 : decode cX9_comesTo 38 = .ok (.iadd, 1) := by decide +kernel
theorem dX9_comesTo_39 : decode cX9_comesTo 39 = .ok (.istore_n 2, 1) := by decide +kernel
theorem dX9_comesTo_40 : decode cX9_comesTo 40 = .ok (.iload_n 3, 1) := by decide +kernel
theorem dX9_comesTo_41 : decode cX9_comesTo 41 = .ok (.ifCond .eq 15, 3) := by decide +kernel
theorem dX9_comesTo_44 : decode cX9_comesTo 44 = .ok (.aload_n 0, 1) := by decide +kernel
theorem dX9_comesTo_45 : decode cX9_comesTo 45 = .ok (.getfield 48, 3) := by decide +kernel
theorem dX9_comesTo_48 : decode cX9_comesTo 48 = .ok (.iload 6, 2) := by decide +kernel
theorem dX9_comesTo_50 : decode cX9_comesTo 50 = .ok (.iaload, 1) := by decide +kernel
theorem dX9_comesTo_51 : decode cX9_comesTo 51 = .ok (.iload 4, 2) := by decide +kernel
theorem dX9_comesTo_53 : decode cX9_comesTo 53 = .ok (.if_icmp .le 13, 3) := by decide +kernel
theorem dX9_comesTo_56 : decode cX9_comesTo 56 = .ok (.aload_n 0, 1) := by decide +kernel
theorem dX9_comesTo_57 : decode cX9_comesTo 57 = .ok (.getfield 48, 3) := by decide +kernel
theorem dX9_comesTo_60 : decode cX9_comesTo 60 = .ok (.iload 6, 2) := by decide +kernel
theorem dX9_comesTo_62 : decode cX9_comesTo 62 = .ok (.iaload, 1) := by decide +kernel
theorem dX9_comesTo_63 : decode cX9_comesTo 63 = .ok (.goto 5, 3) := by decide +kernel
theorem dX9_comesTo_66 : decode cX9_comesTo 66 = .ok (.iload 4, 2) := by decide +kernel
theorem dX9_comesTo_68 : decode cX9_comesTo 68 = .ok (.istore 4, 2) := by decide +kernel
theorem dX9_comesTo_70 : decode cX9_comesTo 70 = .ok (.iinc 3 1, 3) := by decide +kernel
theorem dX9_comesTo_73 : decode cX9_comesTo 73 = .ok (.iinc 5 1, 3) := by decide +kernel
theorem dX9_comesTo_76 : decode cX9_comesTo 76 = .ok (.goto (-66), 3) := by decide +kernel
theorem dX9_comesTo_79 : decode cX9_comesTo 79 = .ok (.iload_n 2, 1) := by decide +kernel
theorem dX9_comesTo_80 : decode cX9_comesTo 80 = .ok (.iload_n 3, 1) := by decide +kernel
theorem dX9_comesTo_81 : decode cX9_comesTo 81 = .ok (.idiv, 1) := by decide +kernel
theorem dX9_comesTo_82 : decode cX9_comesTo 82 = .ok (.istore 5, 2) := by decide +kernel
theorem dX9_comesTo_84 : decode cX9_comesTo 84 = .ok (.iload_n 2, 1) := by decide +kernel
theorem dX9_comesTo_85 : decode cX9_comesTo 85 = .ok (.ifCond .ge 16, 3) := by decide +kernel
theorem dX9_comesTo_88 : decode cX9_comesTo 88 = .ok (.iload_n 2, 1) := by decide +kernel
theorem dX9_comesTo_89 : decode cX9_comesTo 89 = .ok (.iload_n 3, 1) := by decide +kernel
theorem dX9_comesTo_90 : decode cX9_comesTo 90 = .ok (.irem, 1) := by decide +kernel
theorem dX9_comesTo_91 : decode cX9_comesTo 91 = .ok (.ifCond .eq 10, 3) := by decide +kernel
theorem dX9_comesTo_94 : decode cX9_comesTo 94 = .ok (.iload 5, 2) := by decide +kernel
theorem dX9_comesTo_96 : decode cX9_comesTo 96 = .ok (.iconst 1, 1) := by decide +kernel
theorem dX9_comesTo_97 : decode cX9_comesTo 97 = .ok (.isub, 1) := by decide +kernel
theorem dX9_comesTo_98 : decode cX9_comesTo 98 = .ok (.goto 5, 3) := by decide +kernel
theorem dX9_comesTo_101 : decode cX9_comesTo 101 = .ok (.iload 5, 2) := by decide +kernel
theorem dX9_comesTo_103 : decode cX9_comesTo 103 = .ok (.istore 5, 2) := by decide +kernel
theorem dX9_comesTo_105 : decode cX9_comesTo 105 = .ok (.iload 5, 2) := by decide +kernel
theorem dX9_comesTo_107 : decode cX9_comesTo 107 = .ok (.aload_n 0, 1) := by decide +kernel
theorem dX9_comesTo_108 : decode cX9_comesTo 108 = .ok (.getfield 157, 3) := by decide +kernel
theorem dX9_comesTo_111 : decode cX9_comesTo 111 = .ok (.isub, 1) := by decide +kernel
theorem dX9_comesTo_112 : decode cX9_comesTo 112 = .ok (.istore 6, 2) := by decide +kernel
theorem dX9_comesTo_114 : decode cX9_comesTo 114 = .ok (.iload 6, 2) := by decide +kernel
theorem dX9_comesTo_116 : decode cX9_comesTo 116 = .ok (.iload 4, 2) := by decide +kernel
theorem dX9_comesTo_118 : decode cX9_comesTo 118 = .ok (.if_icmp .le 8, 3) := by decide +kernel
theorem dX9_comesTo_121 : decode cX9_comesTo 121 = .ok (.iload 4, 2) := by decide +kernel
theorem dX9_comesTo_123 : decode cX9_comesTo 123 = .ok (.goto 5, 3) := by decide +kernel
theorem dX9_comesTo_126 : decode cX9_comesTo 126 = .ok (.iload 6, 2) := by decide +kernel
theorem dX9_comesTo_128 : decode cX9_comesTo 128 = .ok (.ireturn, 1) := by decide +kernel
theorem dX9_steps_0 : decode cX9_steps 0 = .ok (.iconst 0, 1) := by decide +kernel
theorem dX9_steps_1 : decode cX9_steps 1 = .ok (.istore_n 1, 1) := by decide +kernel
theorem dX9_steps_2 : decode cX9_steps 2 = .ok (.iconst 0, 1) := by decide +kernel
theorem dX9_steps_3 : decode cX9_steps 3 = .ok (.istore_n 2, 1) := by decide +kernel
theorem dX9_steps_4 : decode cX9_steps 4 = .ok (.iload_n 2, 1) := by decide +kernel
theorem dX9_steps_5 : decode cX9_steps 5 = .ok (.bipush 36, 2) := by decide +kernel
theorem dX9_steps_7 : decode cX9_steps 7 = .ok (.if_icmp .ge 63, 3) := by decide +kernel
theorem dX9_steps_10 : decode cX9_steps 10 = .ok (.aload_n 0, 1) := by decide +kernel
theorem dX9_steps_11 : decode cX9_steps 11 = .ok (.getfield 51, 3) := by decide +kernel
theorem dX9_steps_14 : decode cX9_steps 14 = .ok (.iload_n 2, 1) := by decide +kernel
theorem dX9_steps_15 : decode cX9_steps 15 = .ok (.aload_n 0, 1) := by decide +kernel
theorem dX9_steps_16 : decode cX9_steps 16 = .ok (.getfield 54, 3) := by decide +kernel
theorem dX9_steps_19 : decode cX9_steps 19 = .ok (.iload_n 2, 1) := by decide +kernel
theorem dX9_steps_20 : decode cX9_steps 20 = .ok (.baload, 1) := by decide +kernel
theorem dX9_steps_21 : decode cX9_steps 21 = .ok (.ifCond .eq 12, 3) := by decide +kernel
theorem dX9_steps_24 : decode cX9_steps 24 = .ok (.aload_n 0, 1) := by decide +kernel
theorem dX9_steps_25 : decode cX9_steps 25 = .ok (.getfield 48, 3) := by decide +kernel
theorem dX9_steps_28 : decode cX9_steps 28 = .ok (.iload_n 2, 1) := by decide +kernel
theorem dX9_steps_29 : decode cX9_steps 29 = .ok (.iaload, 1) := by decide +kernel
theorem dX9_steps_30 : decode cX9_steps 30 = .ok (.goto 8, 3) := by decide +kernel
theorem dX9_steps_33 : decode cX9_steps 33 = .ok (.aload_n 0, 1) := by decide +kernel
theorem dX9_steps_34 : decode cX9_steps 34 = .ok (.iload_n 2, 1) := by decide +kernel
theorem dX9_steps_35 : decode cX9_steps 35 = .ok (.invokevirtual 164, 3) := by decide +kernel
theorem dX9_steps_38 : decode cX9_steps 38 = .ok (.iastore, 1) := by decide +kernel
theorem dX9_steps_39 : decode cX9_steps 39 = .ok (.iload_n 1, 1) := by decide +kernel
theorem dX9_steps_40 : decode cX9_steps 40 = .ok (.ifCond .ne 18, 3) := by decide +kernel
theorem dX9_steps_43 : decode cX9_steps 43 = .ok (.aload_n 0, 1) := by decide +kernel
theorem dX9_steps_44 : decode cX9_steps 44 = .ok (.getfield 51, 3) := by decide +kernel
theorem dX9_steps_47 : decode cX9_steps 47 = .ok (.iload_n 2, 1) := by decide +kernel
theorem dX9_steps_48 : decode cX9_steps 48 = .ok (.iaload, 1) := by decide +kernel
theorem dX9_steps_49 : decode cX9_steps 49 = .ok (.aload_n 0, 1) := by decide +kernel
theorem dX9_steps_50 : decode cX9_steps 50 = .ok (.getfield 48, 3) := by decide +kernel
theorem dX9_steps_53 : decode cX9_steps 53 = .ok (.iload_n 2, 1) := by decide +kernel
theorem dX9_steps_54 : decode cX9_steps 54 = .ok (.iaload, 1) := by decide +kernel
theorem dX9_steps_55 : decode cX9_steps 55 = .ok (.if_icmp .eq 7, 3) := by decide +kernel
theorem dX9_steps_58 : decode cX9_steps 58 = .ok (.iconst 1, 1) := by decide +kernel
theorem dX9_steps_59 : decode cX9_steps 59 = .ok (.goto 4, 3) := by decide +kernel
theorem dX9_steps_62 : decode cX9_steps 62 = .ok (.iconst 0, 1) := by decide +kernel
theorem dX9_steps_63 : decode cX9_steps 63 = .ok (.istore_n 1, 1) := by decide +kernel
theorem dX9_steps_64 : decode cX9_steps 64 = .ok (.iinc 2 1, 3) := by decide +kernel
theorem dX9_steps_67 : decode cX9_steps 67 = .ok (.goto (-63), 3) := by decide +kernel
theorem dX9_steps_70 : decode cX9_steps 70 = .ok (.iconst 0, 1) := by decide +kernel
theorem dX9_steps_71 : decode cX9_steps 71 = .ok (.istore_n 2, 1) := by decide +kernel
theorem dX9_steps_72 : decode cX9_steps 72 = .ok (.iload_n 2, 1) := by decide +kernel
theorem dX9_steps_73 : decode cX9_steps 73 = .ok (.bipush 36, 2) := by decide +kernel
theorem dX9_steps_75 : decode cX9_steps 75 = .ok (.if_icmp .ge 21, 3) := by decide +kernel
theorem dX9_steps_78 : decode cX9_steps 78 = .ok (.aload_n 0, 1) := by decide +kernel
theorem dX9_steps_79 : decode cX9_steps 79 = .ok (.getfield 48, 3) := by decide +kernel
theorem dX9_steps_82 : decode cX9_steps 82 = .ok (.iload_n 2, 1) := by decide +kernel
theorem dX9_steps_83 : decode cX9_steps 83 = .ok (.aload_n 0, 1) := by decide +kernel
theorem dX9_steps_84 : decode cX9_steps 84 = .ok (.getfield 51, 3) := by decide +kernel
theorem dX9_steps_87 : decode cX9_steps 87 = .ok (.iload_n 2, 1) := by decide +kernel
theorem dX9_steps_88 : decode cX9_steps 88 = .ok (.iaload, 1) := by decide +kernel
theorem dX9_steps_89 : decode cX9_steps 89 = .ok (.iastore, 1) := by decide +kernel
theorem dX9_steps_90 : decode cX9_steps 90 = .ok (.iinc 2 1, 3) := by decide +kernel
theorem dX9_steps_93 : decode cX9_steps 93 = .ok (.goto (-21), 3) := by decide +kernel
theorem dX9_steps_96 : decode cX9_steps 96 = .ok (.iload_n 1, 1) := by decide +kernel
theorem dX9_steps_97 : decode cX9_steps 97 = .ok (.ireturn, 1) := by decide +kernel
theorem dX9_rest_0 : decode cX9_rest 0 = .ok (.aload_n 0, 1) := by decide +kernel
theorem dX9_rest_1 : decode cX9_rest 1 = .ok (.iload_n 1, 1) := by decide +kernel
theorem dX9_rest_2 : decode cX9_rest 2 = .ok (.iconst 1, 1) := by decide +kernel
theorem dX9_rest_3 : decode cX9_rest 3 = .ok (.bipush 50, 2) := by decide +kernel
theorem dX9_rest_5 : decode cX9_rest 5 = .ok (.invokestatic 103, 3) := by decide +kernel
theorem dX9_rest_8 : decode cX9_rest 8 = .ok (.ifCond .eq 7, 3) := by decide +kernel
theorem dX9_rest_11 : decode cX9_rest 11 = .ok (.iconst 0, 1) := by decide +kernel
theorem dX9_rest_12 : decode cX9_rest 12 = .ok (.goto 4, 3) := by decide +kernel
theorem dX9_rest_15 : decode cX9_rest 15 = .ok (.iconst 1, 1) := by decide +kernel
theorem dX9_rest_16 : decode cX9_rest 16 = .ok (.invokevirtual 111, 3) := by decide +kernel
theorem dX9_rest_19 : decode cX9_rest 19 = .ok (.ifCond .ne 5, 3) := by decide +kernel
theorem dX9_rest_22 : decode cX9_rest 22 = .ok (.iconst 0, 1) := by decide +kernel
theorem dX9_rest_23 : decode cX9_rest 23 = .ok (.ireturn, 1) := by decide +kernel
theorem dX9_rest_24 : decode cX9_rest 24 = .ok (.iconst 0, 1) := by decide +kernel
theorem dX9_rest_25 : decode cX9_rest 25 = .ok (.istore_n 2, 1) := by decide +kernel
theorem dX9_rest_26 : decode cX9_rest 26 = .ok (.iconst 1, 1) := by decide +kernel
theorem dX9_rest_27 : decode cX9_rest 27 = .ok (.istore_n 3, 1) := by decide +kernel
theorem dX9_rest_28 : decode cX9_rest 28 = .ok (.iload_n 3, 1) := by decide +kernel
theorem dX9_rest_29 : decode cX9_rest 29 = .ok (.ifCond .eq 28, 3) := by decide +kernel
theorem dX9_rest_32 : decode cX9_rest 32 = .ok (.iload_n 2, 1) := by decide +kernel
theorem dX9_rest_33 : decode cX9_rest 33 = .ok (.iload_n 1, 1) := by decide +kernel
theorem dX9_rest_34 : decode cX9_rest 34 = .ok (.if_icmp .ge 23, 3) := by decide +kernel
theorem dX9_rest_37 : decode cX9_rest 37 = .ok (.aload_n 0, 1) := by decide +kernel
theorem dX9_rest_38 : decode cX9_rest 38 = .ok (.invokevirtual 167, 3) := by decide +kernel
theorem dX9_rest_41 : decode cX9_rest 41 = .ok (.istore_n 3, 1) := by decide +kernel
theorem dX9_rest_42 : decode cX9_rest 42 = .ok (.iload_n 2, 1) := by decide +kernel
theorem dX9_rest_43 : decode cX9_rest 43 = .ok (.iload_n 3, 1) := by decide +kernel
theorem dX9_rest_44 : decode cX9_rest 44 = .ok (.ifCond .eq 7, 3) := by decide +kernel
theorem dX9_rest_47 : decode cX9_rest 47 = .ok (.iconst 1, 1) := by decide +kernel
theorem dX9_rest_48 : decode cX9_rest 48 = .ok (.goto 4, 3) := by decide +kernel
theorem dX9_rest_51 : decode cX9_rest 51 = .ok (.iconst 0, 1) := by decide +kernel
theorem dX9_rest_52 : decode cX9_rest 52 = .ok (.iadd, 1) := by decide +kernel
theorem dX9_rest_53 : decode cX9_rest 53 = .ok (.istore_n 2, 1) := by decide +kernel
theorem dX9_rest_54 : decode cX9_rest 54 = .ok (.goto (-26), 3) := by decide +kernel
theorem dX9_rest_57 : decode cX9_rest 57 = .ok (.iload_n 2, 1) := by decide +kernel
theorem dX9_rest_58 : decode cX9_rest 58 = .ok (.ireturn, 1) := by decide +kernel
theorem dX9_height_0 : decode cX9_height 0 = .ok (.aload_n 0, 1) := by decide +kernel
theorem dX9_height_1 : decode cX9_height 1 = .ok (.iload_n 1, 1) := by decide +kernel
theorem dX9_height_2 : decode cX9_height 2 = .ok (.invokestatic 154, 3) := by decide +kernel
theorem dX9_height_5 : decode cX9_height 5 = .ok (.ifCond .eq 7, 3) := by decide +kernel
theorem dX9_height_8 : decode cX9_height 8 = .ok (.iconst 0, 1) := by decide +kernel
theorem dX9_height_9 : decode cX9_height 9 = .ok (.goto 4, 3) := by decide +kernel
theorem dX9_height_12 : decode cX9_height 12 = .ok (.iconst 1, 1) := by decide +kernel
theorem dX9_height_13 : decode cX9_height 13 = .ok (.invokevirtual 111, 3) := by decide +kernel
theorem dX9_height_16 : decode cX9_height 16 = .ok (.ifCond .eq 12, 3) := by decide +kernel
theorem dX9_height_19 : decode cX9_height 19 = .ok (.aload_n 0, 1) := by decide +kernel
theorem dX9_height_20 : decode cX9_height 20 = .ok (.getfield 48, 3) := by decide +kernel
theorem dX9_height_23 : decode cX9_height 23 = .ok (.iload_n 1, 1) := by decide +kernel
theorem dX9_height_24 : decode cX9_height 24 = .ok (.iaload, 1) := by decide +kernel
theorem dX9_height_25 : decode cX9_height 25 = .ok (.goto 4, 3) := by decide +kernel
theorem dX9_height_28 : decode cX9_height 28 = .ok (.iconst 0, 1) := by decide +kernel
theorem dX9_height_29 : decode cX9_height 29 = .ok (.ireturn, 1) := by decide +kernel
theorem dX9_peg_0 : decode cX9_peg 0 = .ok (.lload_n 1, 1) := by decide +kernel
theorem dX9_peg_1 : decode cX9_peg 1 = .ok (.lconst 0, 1) := by decide +kernel
theorem dX9_peg_2 : decode cX9_peg 2 = .ok (.lcmp, 1) := by decide +kernel
theorem dX9_peg_3 : decode cX9_peg 3 = .ok (.ifCond .lt 25, 3) := by decide +kernel
theorem dX9_peg_6 : decode cX9_peg 6 = .ok (.lload_n 1, 1) := by decide +kernel
theorem dX9_peg_7 : decode cX9_peg 7 = .ok (.ldc2_w 171, 3) := by decide +kernel
theorem dX9_peg_10 : decode cX9_peg 10 = .ok (.lcmp, 1) := by decide +kernel
theorem dX9_peg_11 : decode cX9_peg 11 = .ok (.ifCond .gt 17, 3) := by decide +kernel
theorem dX9_peg_14 : decode cX9_peg 14 = .ok (.iload_n 3, 1) := by decide +kernel
theorem dX9_peg_15 : decode cX9_peg 15 = .ok (.iconst 1, 1) := by decide +kernel
theorem dX9_peg_16 : decode cX9_peg 16 = .ok (.bipush 100, 2) := by decide +kernel
theorem dX9_peg_18 : decode cX9_peg 18 = .ok (.invokestatic 103, 3) := by decide +kernel
theorem dX9_peg_21 : decode cX9_peg 21 = .ok (.ifCond .eq 7, 3) := by decide +kernel
theorem dX9_peg_24 : decode cX9_peg 24 = .ok (.iconst 1, 1) := by decide +kernel
theorem dX9_peg_25 : decode cX9_peg 25 = .ok (.goto 4, 3) := by decide +kernel
theorem dX9_peg_28 : decode cX9_peg 28 = .ok (.iconst 0, 1) := by decide +kernel
theorem dX9_peg_29 : decode cX9_peg 29 = .ok (.istore 4, 2) := by decide +kernel
theorem dX9_peg_31 : decode cX9_peg 31 = .ok (.aload_n 0, 1) := by decide +kernel
theorem dX9_peg_32 : decode cX9_peg 32 = .ok (.iload 4, 2) := by decide +kernel
theorem dX9_peg_34 : decode cX9_peg 34 = .ok (.ifCond .ne 7, 3) := by decide +kernel
theorem dX9_peg_37 : decode cX9_peg 37 = .ok (.iconst 1, 1) := by decide +kernel
theorem dX9_peg_38 : decode cX9_peg 38 = .ok (.goto 17, 3) := by decide +kernel
theorem dX9_peg_41 : decode cX9_peg 41 = .ok (.aload_n 0, 1) := by decide +kernel
theorem dX9_peg_42 : decode cX9_peg 42 = .ok (.getfield 173, 3) := by decide +kernel
theorem dX9_peg_45 : decode cX9_peg 45 = .ok (.bipush 8, 2) := by decide +kernel
theorem dX9_peg_47 : decode cX9_peg 47 = .ok (.if_icmp .ne 7, 3) := by decide +kernel
theorem dX9_peg_50 : decode cX9_peg 50 = .ok (.iconst 2, 1) := by decide +kernel
theorem dX9_peg_51 : decode cX9_peg 51 = .ok (.goto 4, 3) := by decide +kernel
theorem dX9_peg_54 : decode cX9_peg 54 = .ok (.iconst 0, 1) := by decide +kernel
theorem dX9_peg_55 : decode cX9_peg 55 = .ok (.invokevirtual 111, 3) := by decide +kernel
theorem dX9_peg_58 : decode cX9_peg 58 = .ok (.ifCond .ne 5, 3) := by decide +kernel
theorem dX9_peg_61 : decode cX9_peg 61 = .ok (.iconst 0, 1) := by decide +kernel
theorem dX9_peg_62 : decode cX9_peg 62 = .ok (.ireturn, 1) := by decide +kernel
theorem dX9_peg_63 : decode cX9_peg 63 = .ok (.aload_n 0, 1) := by decide +kernel
theorem dX9_peg_64 : decode cX9_peg 64 = .ok (.getfield 57, 3) := by decide +kernel
theorem dX9_peg_67 : decode cX9_peg 67 = .ok (.aload_n 0, 1) := by decide +kernel
theorem dX9_peg_68 : decode cX9_peg 68 = .ok (.getfield 173, 3) := by decide +kernel
theorem dX9_peg_71 : decode cX9_peg 71 = .ok (.lload_n 1, 1) := by decide +kernel
theorem dX9_peg_72 : decode cX9_peg 72 = .ok (.lastore, 1) := by decide +kernel
theorem dX9_peg_73 : decode cX9_peg 73 = .ok (.aload_n 0, 1) := by decide +kernel
theorem dX9_peg_74 : decode cX9_peg 74 = .ok (.getfield 60, 3) := by decide +kernel
theorem dX9_peg_77 : decode cX9_peg 77 = .ok (.aload_n 0, 1) := by decide +kernel
theorem dX9_peg_78 : decode cX9_peg 78 = .ok (.getfield 173, 3) := by decide +kernel
theorem dX9_peg_81 : decode cX9_peg 81 = .ok (.iload_n 3, 1) := by decide +kernel
theorem dX9_peg_82 : decode cX9_peg 82 = .ok (.iastore, 1) := by decide +kernel
theorem dX9_peg_83 : decode cX9_peg 83 = .ok (.aload_n 0, 1) := by decide +kernel
theorem dX9_peg_84 : decode cX9_peg 84 = .ok (.getfield 63, 3) := by decide +kernel
theorem dX9_peg_87 : decode cX9_peg 87 = .ok (.aload_n 0, 1) := by decide +kernel
theorem dX9_peg_88 : decode cX9_peg 88 = .ok (.getfield 173, 3) := by decide +kernel
theorem dX9_peg_91 : decode cX9_peg 91 = .ok (.iconst 1, 1) := by decide +kernel
theorem dX9_peg_92 : decode cX9_peg 92 = .ok (.bastore, 1) := by decide +kernel
theorem dX9_peg_93 : decode cX9_peg 93 = .ok (.aload_n 0, 1) := by decide +kernel
theorem dX9_peg_94 : decode cX9_peg 94 = .ok (.dup, 1) := by decide +kernel
theorem dX9_peg_95 : decode cX9_peg 95 = .ok (.getfield 173, 3) := by decide +kernel
theorem dX9_peg_98 : decode cX9_peg 98 = .ok (.iconst 1, 1) := by decide +kernel
theorem dX9_peg_99 : decode cX9_peg 99 = .ok (.iadd, 1) := by decide +kernel
theorem dX9_peg_100 : decode cX9_peg 100 = .ok (.putfield 173, 3) := by decide +kernel
theorem dX9_peg_103 : decode cX9_peg 103 = .ok (.aload_n 0, 1) := by decide +kernel
theorem dX9_peg_104 : decode cX9_peg 104 = .ok (.getfield 173, 3) := by decide +kernel
theorem dX9_peg_107 : decode cX9_peg 107 = .ok (.iconst 1, 1) := by decide +kernel
theorem dX9_peg_108 : decode cX9_peg 108 = .ok (.isub, 1) := by decide +kernel
theorem dX9_peg_109 : decode cX9_peg 109 = .ok (.ireturn, 1) := by decide +kernel
theorem dX9_shares_0 : decode cX9_shares 0 = .ok (.iconst 0, 1) := by decide +kernel
theorem dX9_shares_1 : decode cX9_shares 1 = .ok (.istore_n 3, 1) := by decide +kernel
theorem dX9_shares_2 : decode cX9_shares 2 = .ok (.iconst (-1), 1) := by decide +kernel
theorem dX9_shares_3 : decode cX9_shares 3 = .ok (.istore 4, 2) := by decide +kernel
theorem dX9_shares_5 : decode cX9_shares 5 = .ok (.aload_n 0, 1) := by decide +kernel
theorem dX9_shares_6 : decode cX9_shares 6 = .ok (.getfield 173, 3) := by decide +kernel
theorem dX9_shares_9 : decode cX9_shares 9 = .ok (.iconst 1, 1) := by decide +kernel
theorem dX9_shares_10 : decode cX9_shares 10 = .ok (.isub, 1) := by decide +kernel
theorem dX9_shares_11 : decode cX9_shares 11 = .ok (.istore 5, 2) := by decide +kernel
theorem dX9_shares_13 : decode cX9_shares 13 = .ok (.iload 5, 2) := by decide +kernel
theorem dX9_shares_15 : decode cX9_shares 15 = .ok (.ifCond .lt 52, 3) := by decide +kernel
theorem dX9_shares_18 : decode cX9_shares 18 = .ok (.iload_n 3, 1) := by decide +kernel
theorem dX9_shares_19 : decode cX9_shares 19 = .ok (.aload_n 0, 1) := by decide +kernel
theorem dX9_shares_20 : decode cX9_shares 20 = .ok (.getfield 63, 3) := by decide +kernel
theorem dX9_shares_23 : decode cX9_shares 23 = .ok (.iload 5, 2) := by decide +kernel
theorem dX9_shares_25 : decode cX9_shares 25 = .ok (.baload, 1) := by decide +kernel
theorem dX9_shares_26 : decode cX9_shares 26 = .ok (.ifCond .eq 13, 3) := by decide +kernel
theorem dX9_shares_29 : decode cX9_shares 29 = .ok (.aload_n 0, 1) := by decide +kernel
theorem dX9_shares_30 : decode cX9_shares 30 = .ok (.getfield 60, 3) := by decide +kernel
theorem dX9_shares_33 : decode cX9_shares 33 = .ok (.iload 5, 2) := by decide +kernel
theorem dX9_shares_35 : decode cX9_shares 35 = .ok (.iaload, 1) := by decide +kernel
theorem dX9_shares_36 : decode cX9_shares 36 = .ok (.goto 4, 3) := by decide +kernel
theorem dX9_shares_39 : decode cX9_shares 39 = .ok (.iconst 0, 1) := by decide +kernel
theorem dX9_shares_40 : decode cX9_shares 40 = .ok (.iadd, 1) := by decide +kernel
theorem dX9_shares_41 : decode cX9_shares 41 = .ok (.istore_n 3, 1) := by decide +kernel
theorem dX9_shares_42 : decode cX9_shares 42 = .ok (.aload_n 0, 1) := by decide +kernel
theorem dX9_shares_43 : decode cX9_shares 43 = .ok (.getfield 63, 3) := by decide +kernel
theorem dX9_shares_46 : decode cX9_shares 46 = .ok (.iload 5, 2) := by decide +kernel
theorem dX9_shares_48 : decode cX9_shares 48 = .ok (.baload, 1) := by decide +kernel
theorem dX9_shares_49 : decode cX9_shares 49 = .ok (.ifCond .eq 8, 3) := by decide +kernel
theorem dX9_shares_52 : decode cX9_shares 52 = .ok (.iload 5, 2) := by decide +kernel
theorem dX9_shares_54 : decode cX9_shares 54 = .ok (.goto 5, 3) := by decide +kernel
theorem dX9_shares_57 : decode cX9_shares 57 = .ok (.iload 4, 2) := by decide +kernel
theorem dX9_shares_59 : decode cX9_shares 59 = .ok (.istore 4, 2) := by decide +kernel
theorem dX9_shares_61 : decode cX9_shares 61 = .ok (.iinc 5 (-1), 3) := by decide +kernel
theorem dX9_shares_64 : decode cX9_shares 64 = .ok (.goto (-51), 3) := by decide +kernel
theorem dX9_shares_67 : decode cX9_shares 67 = .ok (.lload_n 1, 1) := by decide +kernel
theorem dX9_shares_68 : decode cX9_shares 68 = .ok (.lstore 5, 2) := by decide +kernel
theorem dX9_shares_70 : decode cX9_shares 70 = .ok (.iconst 0, 1) := by decide +kernel
theorem dX9_shares_71 : decode cX9_shares 71 = .ok (.istore 7, 2) := by decide +kernel
theorem dX9_shares_73 : decode cX9_shares 73 = .ok (.iload 7, 2) := by decide +kernel
theorem dX9_shares_75 : decode cX9_shares 75 = .ok (.aload_n 0, 1) := by decide +kernel
theorem dX9_shares_76 : decode cX9_shares 76 = .ok (.getfield 173, 3) := by decide +kernel
theorem dX9_shares_79 : decode cX9_shares 79 = .ok (.if_icmp .ge 51, 3) := by decide +kernel
theorem dX9_shares_82 : decode cX9_shares 82 = .ok (.aload_n 0, 1) := by decide +kernel
theorem dX9_shares_83 : decode cX9_shares 83 = .ok (.getfield 63, 3) := by decide +kernel
theorem dX9_shares_86 : decode cX9_shares 86 = .ok (.iload 7, 2) := by decide +kernel
theorem dX9_shares_88 : decode cX9_shares 88 = .ok (.baload, 1) := by decide +kernel
theorem dX9_shares_89 : decode cX9_shares 89 = .ok (.ifCond .eq 35, 3) := by decide +kernel
theorem dX9_shares_92 : decode cX9_shares 92 = .ok (.aload_n 0, 1) := by decide +kernel
theorem dX9_shares_93 : decode cX9_shares 93 = .ok (.getfield 66, 3) := by decide +kernel
theorem dX9_shares_96 : decode cX9_shares 96 = .ok (.iload 7, 2) := by decide +kernel
theorem dX9_shares_98 : decode cX9_shares 98 = .ok (.lload_n 1, 1) := by decide +kernel
theorem dX9_shares_99 : decode cX9_shares 99 = .ok (.aload_n 0, 1) := by decide +kernel
theorem dX9_shares_100 : decode cX9_shares 100 = .ok (.getfield 60, 3) := by decide +kernel
theorem dX9_shares_103 : decode cX9_shares 103 = .ok (.iload 7, 2) := by decide +kernel
theorem dX9_shares_105 : decode cX9_shares 105 = .ok (.iaload, 1) := by decide +kernel
theorem dX9_shares_106 : decode cX9_shares 106 = .ok (.i2l, 1) := by decide +kernel
theorem dX9_shares_107 : decode cX9_shares 107 = .ok (.lmul, 1) := by decide +kernel
theorem dX9_shares_108 : decode cX9_shares 108 = .ok (.iload_n 3, 1) := by decide +kernel
theorem dX9_shares_109 : decode cX9_shares 109 = .ok (.i2l, 1) := by decide +kernel
theorem dX9_shares_110 : decode cX9_shares 110 = .ok (.ldiv, 1) := by decide +kernel
theorem dX9_shares_111 : decode cX9_shares 111 = .ok (.lastore, 1) := by decide +kernel
theorem dX9_shares_112 : decode cX9_shares 112 = .ok (.lload 5, 2) := by decide +kernel
theorem dX9_shares_114 : decode cX9_shares 114 = .ok (.aload_n 0, 1) := by decide +kernel
theorem dX9_shares_115 : decode cX9_shares 115 = .ok (.getfield 66, 3) := by decide +kernel
theorem dX9_shares_118 : decode cX9_shares 118 = .ok (.iload 7, 2) := by decide +kernel
theorem dX9_shares_120 : decode cX9_shares 120 = .ok (.laload, 1) := by decide +kernel
theorem dX9_shares_121 : decode cX9_shares 121 = .ok (.lsub, 1) := by decide +kernel
theorem dX9_shares_122 : decode cX9_shares 122 = .ok (.lstore 5, 2) := by decide +kernel
theorem dX9_shares_124 : decode cX9_shares 124 = .ok (.iinc 7 1, 3) := by decide +kernel
theorem dX9_shares_127 : decode cX9_shares 127 = .ok (.goto (-54), 3) := by decide +kernel
theorem dX9_shares_130 : decode cX9_shares 130 = .ok (.iload 4, 2) := by decide +kernel
theorem dX9_shares_132 : decode cX9_shares 132 = .ok (.iconst (-1), 1) := by decide +kernel
theorem dX9_shares_133 : decode cX9_shares 133 = .ok (.if_icmp .eq 15, 3) := by decide +kernel
theorem dX9_shares_136 : decode cX9_shares 136 = .ok (.aload_n 0, 1) := by decide +kernel
theorem dX9_shares_137 : decode cX9_shares 137 = .ok (.getfield 66, 3) := by decide +kernel
theorem dX9_shares_140 : decode cX9_shares 140 = .ok (.iload 4, 2) := by decide +kernel
theorem dX9_shares_142 : decode cX9_shares 142 = .ok (.dup2, 1) := by decide +kernel
theorem dX9_shares_143 : decode cX9_shares 143 = .ok (.laload, 1) := by decide +kernel
theorem dX9_shares_144 : decode cX9_shares 144 = .ok (.lload 5, 2) := by decide +kernel
theorem dX9_shares_146 : decode cX9_shares 146 = .ok (.ladd, 1) := by decide +kernel
theorem dX9_shares_147 : decode cX9_shares 147 = .ok (.lastore, 1) := by decide +kernel
theorem dX9_shares_148 : decode cX9_shares 148 = .ok (.iconst 0, 1) := by decide +kernel
theorem dX9_shares_149 : decode cX9_shares 149 = .ok (.istore 7, 2) := by decide +kernel
theorem dX9_shares_151 : decode cX9_shares 151 = .ok (.iconst 0, 1) := by decide +kernel
theorem dX9_shares_152 : decode cX9_shares 152 = .ok (.istore 8, 2) := by decide +kernel
theorem dX9_shares_154 : decode cX9_shares 154 = .ok (.iload 8, 2) := by decide +kernel
theorem dX9_shares_156 : decode cX9_shares 156 = .ok (.aload_n 0, 1) := by decide +kernel
theorem dX9_shares_157 : decode cX9_shares 157 = .ok (.getfield 173, 3) := by decide +kernel
theorem dX9_shares_160 : decode cX9_shares 160 = .ok (.if_icmp .ge 48, 3) := by decide +kernel
theorem dX9_shares_163 : decode cX9_shares 163 = .ok (.aload_n 0, 1) := by decide +kernel
theorem dX9_shares_164 : decode cX9_shares 164 = .ok (.getfield 63, 3) := by decide +kernel
theorem dX9_shares_167 : decode cX9_shares 167 = .ok (.iload 8, 2) := by decide +kernel
theorem dX9_shares_169 : decode cX9_shares 169 = .ok (.baload, 1) := by decide +kernel
theorem dX9_shares_170 : decode cX9_shares 170 = .ok (.ifCond .eq 32, 3) := by decide +kernel
theorem dX9_shares_173 : decode cX9_shares 173 = .ok (.aload_n 0, 1) := by decide +kernel
theorem dX9_shares_174 : decode cX9_shares 174 = .ok (.getfield 66, 3) := by decide +kernel
theorem dX9_shares_177 : decode cX9_shares 177 = .ok (.iload 8, 2) := by decide +kernel
theorem dX9_shares_179 : decode cX9_shares 179 = .ok (.laload, 1) := by decide +kernel
theorem dX9_shares_180 : decode cX9_shares 180 = .ok (.aload_n 0, 1) := by decide +kernel
theorem dX9_shares_181 : decode cX9_shares 181 = .ok (.getfield 57, 3) := by decide +kernel
theorem dX9_shares_184 : decode cX9_shares 184 = .ok (.iload 8, 2) := by decide +kernel
theorem dX9_shares_186 : decode cX9_shares 186 = .ok (.laload, 1) := by decide +kernel
theorem dX9_shares_187 : decode cX9_shares 187 = .ok (.lcmp, 1) := by decide +kernel
theorem dX9_shares_188 : decode cX9_shares 188 = .ok (.ifCond .le 14, 3) := by decide +kernel
theorem dX9_shares_191 : decode cX9_shares 191 = .ok (.aload_n 0, 1) := by decide +kernel
theorem dX9_shares_192 : decode cX9_shares 192 = .ok (.getfield 63, 3) := by decide +kernel
theorem dX9_shares_195 : decode cX9_shares 195 = .ok (.iload 8, 2) := by decide +kernel
theorem dX9_shares_197 : decode cX9_shares 197 = .ok (.iconst 0, 1) := by decide +kernel
theorem dX9_shares_198 : decode cX9_shares 198 = .ok (.bastore, 1) := by decide +kernel
theorem dX9_shares_199 : decode cX9_shares 199 = .ok (.iinc 7 1, 3) := by decide +kernel
theorem dX9_shares_202 : decode cX9_shares 202 = .ok (.iinc 8 1, 3) := by decide +kernel
theorem dX9_shares_205 : decode cX9_shares 205 = .ok (.goto (-51), 3) := by decide +kernel
theorem dX9_shares_208 : decode cX9_shares 208 = .ok (.iload 7, 2) := by decide +kernel
theorem dX9_shares_210 : decode cX9_shares 210 = .ok (.ireturn, 1) := by decide +kernel
theorem dX9_gust_0 : decode cX9_gust 0 = .ok (.aload_n 0, 1) := by decide +kernel
theorem dX9_gust_1 : decode cX9_gust 1 = .ok (.lload_n 1, 1) := by decide +kernel
theorem dX9_gust_2 : decode cX9_gust 2 = .ok (.lconst 0, 1) := by decide +kernel
theorem dX9_gust_3 : decode cX9_gust 3 = .ok (.lcmp, 1) := by decide +kernel
theorem dX9_gust_4 : decode cX9_gust 4 = .ok (.ifCond .lt 15, 3) := by decide +kernel
theorem dX9_gust_7 : decode cX9_gust 7 = .ok (.lload_n 1, 1) := by decide +kernel
theorem dX9_gust_8 : decode cX9_gust 8 = .ok (.ldc2_w 176, 3) := by decide +kernel
theorem dX9_gust_11 : decode cX9_gust 11 = .ok (.lcmp, 1) := by decide +kernel
theorem dX9_gust_12 : decode cX9_gust 12 = .ok (.ifCond .gt 7, 3) := by decide +kernel
theorem dX9_gust_15 : decode cX9_gust 15 = .ok (.iconst 0, 1) := by decide +kernel
theorem dX9_gust_16 : decode cX9_gust 16 = .ok (.goto 4, 3) := by decide +kernel
theorem dX9_gust_19 : decode cX9_gust 19 = .ok (.iconst 1, 1) := by decide +kernel
theorem dX9_gust_20 : decode cX9_gust 20 = .ok (.invokevirtual 111, 3) := by decide +kernel
theorem dX9_gust_23 : decode cX9_gust 23 = .ok (.ifCond .ne 5, 3) := by decide +kernel
theorem dX9_gust_26 : decode cX9_gust 26 = .ok (.iconst 0, 1) := by decide +kernel
theorem dX9_gust_27 : decode cX9_gust 27 = .ok (.ireturn, 1) := by decide +kernel
theorem dX9_gust_28 : decode cX9_gust 28 = .ok (.iconst 0, 1) := by decide +kernel
theorem dX9_gust_29 : decode cX9_gust 29 = .ok (.istore_n 3, 1) := by decide +kernel
theorem dX9_gust_30 : decode cX9_gust 30 = .ok (.aload_n 0, 1) := by decide +kernel
theorem dX9_gust_31 : decode cX9_gust 31 = .ok (.lload_n 1, 1) := by decide +kernel
theorem dX9_gust_32 : decode cX9_gust 32 = .ok (.invokevirtual 178, 3) := by decide +kernel
theorem dX9_gust_35 : decode cX9_gust 35 = .ok (.istore 4, 2) := by decide +kernel
theorem dX9_gust_37 : decode cX9_gust 37 = .ok (.iload 4, 2) := by decide +kernel
theorem dX9_gust_39 : decode cX9_gust 39 = .ok (.ifCond .le 18, 3) := by decide +kernel
theorem dX9_gust_42 : decode cX9_gust 42 = .ok (.iload_n 3, 1) := by decide +kernel
theorem dX9_gust_43 : decode cX9_gust 43 = .ok (.iload 4, 2) := by decide +kernel
theorem dX9_gust_45 : decode cX9_gust 45 = .ok (.iadd, 1) := by decide +kernel
theorem dX9_gust_46 : decode cX9_gust 46 = .ok (.istore_n 3, 1) := by decide +kernel
theorem dX9_gust_47 : decode cX9_gust 47 = .ok (.aload_n 0, 1) := by decide +kernel
theorem dX9_gust_48 : decode cX9_gust 48 = .ok (.lload_n 1, 1) := by decide +kernel
theorem dX9_gust_49 : decode cX9_gust 49 = .ok (.invokevirtual 178, 3) := by decide +kernel
theorem dX9_gust_52 : decode cX9_gust 52 = .ok (.istore 4, 2) := by decide +kernel
theorem dX9_gust_54 : decode cX9_gust 54 = .ok (.goto (-17), 3) := by decide +kernel
theorem dX9_gust_57 : decode cX9_gust 57 = .ok (.iload_n 3, 1) := by decide +kernel
theorem dX9_gust_58 : decode cX9_gust 58 = .ok (.ireturn, 1) := by decide +kernel
theorem dX9_pulled_0 : decode cX9_pulled 0 = .ok (.aload_n 0, 1) := by decide +kernel
theorem dX9_pulled_1 : decode cX9_pulled 1 = .ok (.iload_n 1, 1) := by decide +kernel
theorem dX9_pulled_2 : decode cX9_pulled 2 = .ok (.iconst 0, 1) := by decide +kernel
theorem dX9_pulled_3 : decode cX9_pulled 3 = .ok (.aload_n 0, 1) := by decide +kernel
theorem dX9_pulled_4 : decode cX9_pulled 4 = .ok (.getfield 173, 3) := by decide +kernel
theorem dX9_pulled_7 : decode cX9_pulled 7 = .ok (.iconst 1, 1) := by decide +kernel
theorem dX9_pulled_8 : decode cX9_pulled 8 = .ok (.isub, 1) := by decide +kernel
theorem dX9_pulled_9 : decode cX9_pulled 9 = .ok (.invokestatic 103, 3) := by decide +kernel
theorem dX9_pulled_12 : decode cX9_pulled 12 = .ok (.ifCond .eq 7, 3) := by decide +kernel
theorem dX9_pulled_15 : decode cX9_pulled 15 = .ok (.iconst 0, 1) := by decide +kernel
theorem dX9_pulled_16 : decode cX9_pulled 16 = .ok (.goto 4, 3) := by decide +kernel
theorem dX9_pulled_19 : decode cX9_pulled 19 = .ok (.iconst 1, 1) := by decide +kernel
theorem dX9_pulled_20 : decode cX9_pulled 20 = .ok (.invokevirtual 111, 3) := by decide +kernel
theorem dX9_pulled_23 : decode cX9_pulled 23 = .ok (.ifCond .eq 12, 3) := by decide +kernel
theorem dX9_pulled_26 : decode cX9_pulled 26 = .ok (.aload_n 0, 1) := by decide +kernel
theorem dX9_pulled_27 : decode cX9_pulled 27 = .ok (.getfield 66, 3) := by decide +kernel
theorem dX9_pulled_30 : decode cX9_pulled 30 = .ok (.iload_n 1, 1) := by decide +kernel
theorem dX9_pulled_31 : decode cX9_pulled 31 = .ok (.laload, 1) := by decide +kernel
theorem dX9_pulled_32 : decode cX9_pulled 32 = .ok (.goto 4, 3) := by decide +kernel
theorem dX9_pulled_35 : decode cX9_pulled 35 = .ok (.lconst 0, 1) := by decide +kernel
theorem dX9_pulled_36 : decode cX9_pulled 36 = .ok (.lreturn, 1) := by decide +kernel
theorem dX9_pegs_0 : decode cX9_pegs 0 = .ok (.aload_n 0, 1) := by decide +kernel
theorem dX9_pegs_1 : decode cX9_pegs 1 = .ok (.iconst 0, 1) := by decide +kernel
theorem dX9_pegs_2 : decode cX9_pegs 2 = .ok (.putfield 96, 3) := by decide +kernel
theorem dX9_pegs_5 : decode cX9_pegs 5 = .ok (.iconst 0, 1) := by decide +kernel
theorem dX9_pegs_6 : decode cX9_pegs 6 = .ok (.istore_n 1, 1) := by decide +kernel
theorem dX9_pegs_7 : decode cX9_pegs 7 = .ok (.iconst 0, 1) := by decide +kernel
theorem dX9_pegs_8 : decode cX9_pegs 8 = .ok (.istore_n 2, 1) := by decide +kernel
theorem dX9_pegs_9 : decode cX9_pegs 9 = .ok (.iload_n 2, 1) := by decide +kernel
theorem dX9_pegs_10 : decode cX9_pegs 10 = .ok (.aload_n 0, 1) := by decide +kernel
theorem dX9_pegs_11 : decode cX9_pegs 11 = .ok (.getfield 173, 3) := by decide +kernel
theorem dX9_pegs_14 : decode cX9_pegs 14 = .ok (.if_icmp .ge 28, 3) := by decide +kernel
theorem dX9_pegs_17 : decode cX9_pegs 17 = .ok (.iload_n 1, 1) := by decide +kernel
theorem dX9_pegs_18 : decode cX9_pegs 18 = .ok (.aload_n 0, 1) := by decide +kernel
theorem dX9_pegs_19 : decode cX9_pegs 19 = .ok (.getfield 63, 3) := by decide +kernel
theorem dX9_pegs_22 : decode cX9_pegs 22 = .ok (.iload_n 2, 1) := by decide +kernel
theorem dX9_pegs_23 : decode cX9_pegs 23 = .ok (.baload, 1) := by decide +kernel
theorem dX9_pegs_24 : decode cX9_pegs 24 = .ok (.ifCond .eq 9, 3) := by decide +kernel
theorem dX9_pegs_27 : decode cX9_pegs 27 = .ok (.iconst 1, 1) := by decide +kernel
theorem dX9_pegs_28 : decode cX9_pegs 28 = .ok (.iload_n 2, 1) := by decide +kernel
theorem dX9_pegs_29 : decode cX9_pegs 29 = .ok (.ishl, 1) := by decide +kernel
theorem dX9_pegs_30 : decode cX9_pegs 30 = .ok (.goto 4, 3) := by decide +kernel
theorem dX9_pegs_33 : decode cX9_pegs 33 = .ok (.iconst 0, 1) := by decide +kernel
theorem dX9_pegs_34 : decode cX9_pegs 34 = .ok (.iadd, 1) := by decide +kernel
theorem dX9_pegs_35 : decode cX9_pegs 35 = .ok (.istore_n 1, 1) := by decide +kernel
theorem dX9_pegs_36 : decode cX9_pegs 36 = .ok (.iinc 2 1, 3) := by decide +kernel
theorem dX9_pegs_39 : decode cX9_pegs 39 = .ok (.goto (-30), 3) := by decide +kernel
theorem dX9_pegs_42 : decode cX9_pegs 42 = .ok (.iload_n 1, 1) := by decide +kernel
theorem dX9_pegs_43 : decode cX9_pegs 43 = .ok (.ireturn, 1) := by decide +kernel
theorem dX9_draft_0 : decode cX9_draft 0 = .ok (.iload_n 1, 1) := by decide +kernel
theorem dX9_draft_1 : decode cX9_draft 1 = .ok (.i2f, 1) := by decide +kernel
theorem dX9_draft_2 : decode cX9_draft 2 = .ok (.fstore_n 2, 1) := by decide +kernel
theorem dX9_draft_3 : decode cX9_draft 3 = .ok (.aload_n 0, 1) := by decide +kernel
theorem dX9_draft_4 : decode cX9_draft 4 = .ok (.getfield 182, 3) := by decide +kernel
theorem dX9_draft_7 : decode cX9_draft 7 = .ok (.i2f, 1) := by decide +kernel
theorem dX9_draft_8 : decode cX9_draft 8 = .ok (.fstore_n 3, 1) := by decide +kernel
theorem dX9_draft_9 : decode cX9_draft 9 = .ok (.ldc 185, 2) := by decide +kernel
theorem dX9_draft_11 : decode cX9_draft 11 = .ok (.ldc 186, 2) := by decide +kernel
theorem dX9_draft_13 : decode cX9_draft 13 = .ok (.fload_n 2, 1) := by decide +kernel
theorem dX9_draft_14 : decode cX9_draft 14 = .ok (.fmul, 1) := by decide +kernel
theorem dX9_draft_15 : decode cX9_draft 15 = .ok (.fsub, 1) := by decide +kernel
theorem dX9_draft_16 : decode cX9_draft 16 = .ok (.ldc 187, 2) := by decide +kernel
theorem dX9_draft_18 : decode cX9_draft 18 = .ok (.fload_n 3, 1) := by decide +kernel
theorem dX9_draft_19 : decode cX9_draft 19 = .ok (.fmul, 1) := by decide +kernel
theorem dX9_draft_20 : decode cX9_draft 20 = .ok (.fadd, 1) := by decide +kernel
theorem dX9_draft_21 : decode cX9_draft 21 = .ok (.freturn, 1) := by decide +kernel
theorem dX9_powerWith_0 : decode cX9_powerWith 0 = .ok (.aload_n 0, 1) := by decide +kernel
theorem dX9_powerWith_1 : decode cX9_powerWith 1 = .ok (.getfield 188, 3) := by decide +kernel
theorem dX9_powerWith_4 : decode cX9_powerWith 4 = .ok (.i2f, 1) := by decide +kernel
theorem dX9_powerWith_5 : decode cX9_powerWith 5 = .ok (.fstore_n 3, 1) := by decide +kernel
theorem dX9_powerWith_6 : decode cX9_powerWith 6 = .ok (.ldc 191, 2) := by decide +kernel
theorem dX9_powerWith_8 : decode cX9_powerWith 8 = .ok (.fconst 1, 1) := by decide +kernel
theorem dX9_powerWith_9 : decode cX9_powerWith 9 = .ok (.fload_n 3, 1) := by decide +kernel
theorem dX9_powerWith_10 : decode cX9_powerWith 10 = .ok (.fadd, 1) := by decide +kernel
theorem dX9_powerWith_11 : decode cX9_powerWith 11 = .ok (.fdiv, 1) := by decide +kernel
theorem dX9_powerWith_12 : decode cX9_powerWith 12 = .ok (.fstore 4, 2) := by decide +kernel
theorem dX9_powerWith_14 : decode cX9_powerWith 14 = .ok (.iload_n 2, 1) := by decide +kernel
theorem dX9_powerWith_15 : decode cX9_powerWith 15 = .ok (.i2f, 1) := by decide +kernel
theorem dX9_powerWith_16 : decode cX9_powerWith 16 = .ok (.fstore 5, 2) := by decide +kernel
theorem dX9_powerWith_18 : decode cX9_powerWith 18 = .ok (.aload_n 0, 1) := by decide +kernel
theorem dX9_powerWith_19 : decode cX9_powerWith 19 = .ok (.iload_n 1, 1) := by decide +kernel
theorem dX9_powerWith_20 : decode cX9_powerWith 20 = .ok (.invokevirtual 192, 3) := by decide +kernel
theorem dX9_powerWith_23 : decode cX9_powerWith 23 = .ok (.fload 4, 2) := by decide +kernel
theorem dX9_powerWith_25 : decode cX9_powerWith 25 = .ok (.fmul, 1) := by decide +kernel
theorem dX9_powerWith_26 : decode cX9_powerWith 26 = .ok (.fload 5, 2) := by decide +kernel
theorem dX9_powerWith_28 : decode cX9_powerWith 28 = .ok (.fmul, 1) := by decide +kernel
theorem dX9_powerWith_29 : decode cX9_powerWith 29 = .ok (.fload 5, 2) := by decide +kernel
theorem dX9_powerWith_31 : decode cX9_powerWith 31 = .ok (.fmul, 1) := by decide +kernel
theorem dX9_powerWith_32 : decode cX9_powerWith 32 = .ok (.freturn, 1) := by decide +kernel
theorem dX9_trim_0 : decode cX9_trim 0 = .ok (.iload_n 1, 1) := by decide +kernel
theorem dX9_trim_1 : decode cX9_trim 1 = .ok (.iconst 0, 1) := by decide +kernel
theorem dX9_trim_2 : decode cX9_trim 2 = .ok (.bipush 100, 2) := by decide +kernel
theorem dX9_trim_4 : decode cX9_trim 4 = .ok (.invokestatic 103, 3) := by decide +kernel
theorem dX9_trim_7 : decode cX9_trim 7 = .ok (.ifCond .eq 26, 3) := by decide +kernel
theorem dX9_trim_10 : decode cX9_trim 10 = .ok (.iload_n 2, 1) := by decide +kernel
theorem dX9_trim_11 : decode cX9_trim 11 = .ok (.iconst 0, 1) := by decide +kernel
theorem dX9_trim_12 : decode cX9_trim 12 = .ok (.bipush 100, 2) := by decide +kernel
theorem dX9_trim_14 : decode cX9_trim 14 = .ok (.invokestatic 103, 3) := by decide +kernel
theorem dX9_trim_17 : decode cX9_trim 17 = .ok (.ifCond .eq 16, 3) := by decide +kernel
theorem dX9_trim_20 : decode cX9_trim 20 = .ok (.iload_n 3, 1) := by decide +kernel
theorem dX9_trim_21 : decode cX9_trim 21 = .ok (.iconst 0, 1) := by decide +kernel
theorem dX9_trim_22 : decode cX9_trim 22 = .ok (.iconst 3, 1) := by decide +kernel
theorem dX9_trim_23 : decode cX9_trim 23 = .ok (.invokestatic 103, 3) := by decide +kernel
theorem dX9_trim_26 : decode cX9_trim 26 = .ok (.ifCond .eq 7, 3) := by decide +kernel
theorem dX9_trim_29 : decode cX9_trim 29 = .ok (.iconst 1, 1) := by decide +kernel
theorem dX9_trim_30 : decode cX9_trim 30 = .ok (.goto 4, 3) := by decide +kernel
theorem dX9_trim_33 : decode cX9_trim 33 = .ok (.iconst 0, 1) := by decide +kernel
theorem dX9_trim_34 : decode cX9_trim 34 = .ok (.istore 4, 2) := by decide +kernel
theorem dX9_trim_36 : decode cX9_trim 36 = .ok (.aload_n 0, 1) := by decide +kernel
theorem dX9_trim_37 : decode cX9_trim 37 = .ok (.iload 4, 2) := by decide +kernel
theorem dX9_trim_39 : decode cX9_trim 39 = .ok (.ifCond .eq 7, 3) := by decide +kernel
theorem dX9_trim_42 : decode cX9_trim 42 = .ok (.iconst 0, 1) := by decide +kernel
theorem dX9_trim_43 : decode cX9_trim 43 = .ok (.goto 4, 3) := by decide +kernel
theorem dX9_trim_46 : decode cX9_trim 46 = .ok (.iconst 1, 1) := by decide +kernel
theorem dX9_trim_47 : decode cX9_trim 47 = .ok (.invokevirtual 111, 3) := by decide +kernel
theorem dX9_trim_50 : decode cX9_trim 50 = .ok (.ifCond .ne 5, 3) := by decide +kernel
theorem dX9_trim_53 : decode cX9_trim 53 = .ok (.fconst 0, 1) := by decide +kernel
theorem dX9_trim_54 : decode cX9_trim 54 = .ok (.freturn, 1) := by decide +kernel
theorem dX9_trim_55 : decode cX9_trim 55 = .ok (.aload_n 0, 1) := by decide +kernel
theorem dX9_trim_56 : decode cX9_trim 56 = .ok (.iload_n 1, 1) := by decide +kernel
theorem dX9_trim_57 : decode cX9_trim 57 = .ok (.putfield 196, 3) := by decide +kernel
theorem dX9_trim_60 : decode cX9_trim 60 = .ok (.aload_n 0, 1) := by decide +kernel
theorem dX9_trim_61 : decode cX9_trim 61 = .ok (.iload_n 2, 1) := by decide +kernel
theorem dX9_trim_62 : decode cX9_trim 62 = .ok (.putfield 182, 3) := by decide +kernel
theorem dX9_trim_65 : decode cX9_trim 65 = .ok (.aload_n 0, 1) := by decide +kernel
theorem dX9_trim_66 : decode cX9_trim 66 = .ok (.iload_n 3, 1) := by decide +kernel
theorem dX9_trim_67 : decode cX9_trim 67 = .ok (.putfield 188, 3) := by decide +kernel
theorem dX9_trim_70 : decode cX9_trim 70 = .ok (.aload_n 0, 1) := by decide +kernel
theorem dX9_trim_71 : decode cX9_trim 71 = .ok (.aload_n 0, 1) := by decide +kernel
theorem dX9_trim_72 : decode cX9_trim 72 = .ok (.getfield 196, 3) := by decide +kernel
theorem dX9_trim_75 : decode cX9_trim 75 = .ok (.invokevirtual 192, 3) := by decide +kernel
theorem dX9_trim_78 : decode cX9_trim 78 = .ok (.freturn, 1) := by decide +kernel
theorem dX9_power_0 : decode cX9_power 0 = .ok (.aload_n 0, 1) := by decide +kernel
theorem dX9_power_1 : decode cX9_power 1 = .ok (.iload_n 1, 1) := by decide +kernel
theorem dX9_power_2 : decode cX9_power 2 = .ok (.iconst 0, 1) := by decide +kernel
theorem dX9_power_3 : decode cX9_power 3 = .ok (.bipush 100, 2) := by decide +kernel
theorem dX9_power_5 : decode cX9_power 5 = .ok (.invokestatic 103, 3) := by decide +kernel
theorem dX9_power_8 : decode cX9_power 8 = .ok (.ifCond .eq 7, 3) := by decide +kernel
theorem dX9_power_11 : decode cX9_power 11 = .ok (.iconst 0, 1) := by decide +kernel
theorem dX9_power_12 : decode cX9_power 12 = .ok (.goto 4, 3) := by decide +kernel
theorem dX9_power_15 : decode cX9_power 15 = .ok (.iconst 1, 1) := by decide +kernel
theorem dX9_power_16 : decode cX9_power 16 = .ok (.invokevirtual 111, 3) := by decide +kernel
theorem dX9_power_19 : decode cX9_power 19 = .ok (.ifCond .eq 15, 3) := by decide +kernel
theorem dX9_power_22 : decode cX9_power 22 = .ok (.aload_n 0, 1) := by decide +kernel
theorem dX9_power_23 : decode cX9_power 23 = .ok (.aload_n 0, 1) := by decide +kernel
theorem dX9_power_24 : decode cX9_power 24 = .ok (.getfield 196, 3) := by decide +kernel
theorem dX9_power_27 : decode cX9_power 27 = .ok (.iload_n 1, 1) := by decide +kernel
theorem dX9_power_28 : decode cX9_power 28 = .ok (.invokevirtual 199, 3) := by decide +kernel
theorem dX9_power_31 : decode cX9_power 31 = .ok (.goto 4, 3) := by decide +kernel
theorem dX9_power_34 : decode cX9_power 34 = .ok (.fconst 0, 1) := by decide +kernel
theorem dX9_power_35 : decode cX9_power 35 = .ok (.freturn, 1) := by decide +kernel
theorem dX9_halyard_0 : decode cX9_halyard 0 = .ok (.aload_n 0, 1) := by decide +kernel
theorem dX9_halyard_1 : decode cX9_halyard 1 = .ok (.iload_n 1, 1) := by decide +kernel
theorem dX9_halyard_2 : decode cX9_halyard 2 = .ok (.iconst 0, 1) := by decide +kernel
theorem dX9_halyard_3 : decode cX9_halyard 3 = .ok (.bipush 100, 2) := by decide +kernel
theorem dX9_halyard_5 : decode cX9_halyard 5 = .ok (.invokestatic 103, 3) := by decide +kernel
theorem dX9_halyard_8 : decode cX9_halyard 8 = .ok (.ifCond .eq 17, 3) := by decide +kernel
theorem dX9_halyard_11 : decode cX9_halyard 11 = .ok (.iload_n 2, 1) := by decide +kernel
theorem dX9_halyard_12 : decode cX9_halyard 12 = .ok (.iconst 0, 1) := by decide +kernel
theorem dX9_halyard_13 : decode cX9_halyard 13 = .ok (.ldc 203, 2) := by decide +kernel
theorem dX9_halyard_15 : decode cX9_halyard 15 = .ok (.invokestatic 103, 3) := by decide +kernel
theorem dX9_halyard_18 : decode cX9_halyard 18 = .ok (.ifCond .eq 7, 3) := by decide +kernel
theorem dX9_halyard_21 : decode cX9_halyard 21 = .ok (.iconst 0, 1) := by decide +kernel
theorem dX9_halyard_22 : decode cX9_halyard 22 = .ok (.goto 4, 3) := by decide +kernel
theorem dX9_halyard_25 : decode cX9_halyard 25 = .ok (.iconst 1, 1) := by decide +kernel
theorem dX9_halyard_26 : decode cX9_halyard 26 = .ok (.invokevirtual 111, 3) := by decide +kernel
theorem dX9_halyard_29 : decode cX9_halyard 29 = .ok (.ifCond .ne 5, 3) := by decide +kernel
theorem dX9_halyard_32 : decode cX9_halyard 32 = .ok (.iconst 0, 1) := by decide +kernel
theorem dX9_halyard_33 : decode cX9_halyard 33 = .ok (.ireturn, 1) := by decide +kernel
theorem dX9_halyard_34 : decode cX9_halyard 34 = .ok (.iload_n 2, 1) := by decide +kernel
theorem dX9_halyard_35 : decode cX9_halyard 35 = .ok (.i2f, 1) := by decide +kernel
theorem dX9_halyard_36 : decode cX9_halyard 36 = .ok (.fstore_n 3, 1) := by decide +kernel
theorem dX9_halyard_37 : decode cX9_halyard 37 = .ok (.iconst 0, 1) := by decide +kernel
theorem dX9_halyard_38 : decode cX9_halyard 38 = .ok (.istore 4, 2) := by decide +kernel
theorem dX9_halyard_40 : decode cX9_halyard 40 = .ok (.iload 4, 2) := by decide +kernel
theorem dX9_halyard_42 : decode cX9_halyard 42 = .ok (.bipush 100, 2) := by decide +kernel
theorem dX9_halyard_44 : decode cX9_halyard 44 = .ok (.if_icmp .gt 24, 3) := by decide +kernel
theorem dX9_halyard_47 : decode cX9_halyard 47 = .ok (.aload_n 0, 1) := by decide +kernel
theorem dX9_halyard_48 : decode cX9_halyard 48 = .ok (.iload 4, 2) := by decide +kernel
theorem dX9_halyard_50 : decode cX9_halyard 50 = .ok (.iload_n 1, 1) := by decide +kernel
theorem dX9_halyard_51 : decode cX9_halyard 51 = .ok (.invokevirtual 199, 3) := by decide +kernel
theorem dX9_halyard_54 : decode cX9_halyard 54 = .ok (.fload_n 3, 1) := by decide +kernel
theorem dX9_halyard_55 : decode cX9_halyard 55 = .ok (.fcmp .g, 1) := by decide +kernel
theorem dX9_halyard_56 : decode cX9_halyard 56 = .ok (.ifCond .gt 6, 3) := by decide +kernel
theorem dX9_halyard_59 : decode cX9_halyard 59 = .ok (.iload 4, 2) := by decide +kernel
theorem dX9_halyard_61 : decode cX9_halyard 61 = .ok (.ireturn, 1) := by decide +kernel
theorem dX9_halyard_62 : decode cX9_halyard 62 = .ok (.iinc 4 1, 3) := by decide +kernel
theorem dX9_halyard_65 : decode cX9_halyard 65 = .ok (.goto (-25), 3) := by decide +kernel
theorem dX9_halyard_68 : decode cX9_halyard 68 = .ok (.iconst (-1), 1) := by decide +kernel
theorem dX9_halyard_69 : decode cX9_halyard 69 = .ok (.ireturn, 1) := by decide +kernel
theorem dX9_isCanopy_0 : decode cX9_isCanopy 0 = .ok (.iload_n 1, 1) := by decide +kernel
theorem dX9_isCanopy_1 : decode cX9_isCanopy 1 = .ok (.iconst 0, 1) := by decide +kernel
theorem dX9_isCanopy_2 : decode cX9_isCanopy 2 = .ok (.aload_n 0, 1) := by decide +kernel
theorem dX9_isCanopy_3 : decode cX9_isCanopy 3 = .ok (.getfield 204, 3) := by decide +kernel
theorem dX9_isCanopy_6 : decode cX9_isCanopy 6 = .ok (.iconst 1, 1) := by decide +kernel
theorem dX9_isCanopy_7 : decode cX9_isCanopy 7 = .ok (.isub, 1) := by decide +kernel
theorem dX9_isCanopy_8 : decode cX9_isCanopy 8 = .ok (.invokestatic 103, 3) := by decide +kernel
theorem dX9_isCanopy_11 : decode cX9_isCanopy 11 = .ok (.ireturn, 1) := by decide +kernel
theorem dX9_hasSeal_0 : decode cX9_hasSeal 0 = .ok (.aload_n 0, 1) := by decide +kernel
theorem dX9_hasSeal_1 : decode cX9_hasSeal 1 = .ok (.getfield 78, 3) := by decide +kernel
theorem dX9_hasSeal_4 : decode cX9_hasSeal 4 = .ok (.iload_n 1, 1) := by decide +kernel
theorem dX9_hasSeal_5 : decode cX9_hasSeal 5 = .ok (.iaload, 1) := by decide +kernel
theorem dX9_hasSeal_6 : decode cX9_hasSeal 6 = .ok (.iconst (-1), 1) := by decide +kernel
theorem dX9_hasSeal_7 : decode cX9_hasSeal 7 = .ok (.if_icmp .eq 7, 3) := by decide +kernel
theorem dX9_hasSeal_10 : decode cX9_hasSeal 10 = .ok (.iconst 1, 1) := by decide +kernel
theorem dX9_hasSeal_11 : decode cX9_hasSeal 11 = .ok (.goto 4, 3) := by decide +kernel
theorem dX9_hasSeal_14 : decode cX9_hasSeal 14 = .ok (.iconst 0, 1) := by decide +kernel
theorem dX9_hasSeal_15 : decode cX9_hasSeal 15 = .ok (.ireturn, 1) := by decide +kernel
theorem dX9_pass_0 : decode cX9_pass 0 = .ok (.iload_n 1, 1) := by decide +kernel
theorem dX9_pass_1 : decode cX9_pass 1 = .ok (.iconst 1, 1) := by decide +kernel
theorem dX9_pass_2 : decode cX9_pass 2 = .ok (.sipush 400, 3) := by decide +kernel
theorem dX9_pass_5 : decode cX9_pass 5 = .ok (.invokestatic 103, 3) := by decide +kernel
theorem dX9_pass_8 : decode cX9_pass 8 = .ok (.istore_n 2, 1) := by decide +kernel
theorem dX9_pass_9 : decode cX9_pass 9 = .ok (.aload_n 0, 1) := by decide +kernel
theorem dX9_pass_10 : decode cX9_pass 10 = .ok (.iload_n 2, 1) := by decide +kernel
theorem dX9_pass_11 : decode cX9_pass 11 = .ok (.ifCond .ne 7, 3) := by decide +kernel
theorem dX9_pass_14 : decode cX9_pass 14 = .ok (.iconst 1, 1) := by decide +kernel
theorem dX9_pass_15 : decode cX9_pass 15 = .ok (.goto 19, 3) := by decide +kernel
theorem dX9_pass_18 : decode cX9_pass 18 = .ok (.aload_n 0, 1) := by decide +kernel
theorem dX9_pass_19 : decode cX9_pass 19 = .ok (.getfield 207, 3) := by decide +kernel
theorem dX9_pass_22 : decode cX9_pass 22 = .ok (.iload_n 1, 1) := by decide +kernel
theorem dX9_pass_23 : decode cX9_pass 23 = .ok (.iadd, 1) := by decide +kernel
theorem dX9_pass_24 : decode cX9_pass 24 = .ok (.ldc 203, 2) := by decide +kernel
theorem dX9_pass_26 : decode cX9_pass 26 = .ok (.if_icmp .le 7, 3) := by decide +kernel
theorem dX9_pass_29 : decode cX9_pass 29 = .ok (.iconst 2, 1) := by decide +kernel
theorem dX9_pass_30 : decode cX9_pass 30 = .ok (.goto 4, 3) := by decide +kernel
theorem dX9_pass_33 : decode cX9_pass 33 = .ok (.iconst 0, 1) := by decide +kernel
theorem dX9_pass_34 : decode cX9_pass 34 = .ok (.invokevirtual 111, 3) := by decide +kernel
theorem dX9_pass_37 : decode cX9_pass 37 = .ok (.ifCond .ne 5, 3) := by decide +kernel
theorem dX9_pass_40 : decode cX9_pass 40 = .ok (.iconst 0, 1) := by decide +kernel
theorem dX9_pass_41 : decode cX9_pass 41 = .ok (.ireturn, 1) := by decide +kernel
theorem dX9_pass_42 : decode cX9_pass 42 = .ok (.aload_n 0, 1) := by decide +kernel
theorem dX9_pass_43 : decode cX9_pass 43 = .ok (.dup, 1) := by decide +kernel
theorem dX9_pass_44 : decode cX9_pass 44 = .ok (.getfield 207, 3) := by decide +kernel
theorem dX9_pass_47 : decode cX9_pass 47 = .ok (.iload_n 1, 1) := by decide +kernel
theorem dX9_pass_48 : decode cX9_pass 48 = .ok (.iadd, 1) := by decide +kernel
theorem dX9_pass_49 : decode cX9_pass 49 = .ok (.putfield 207, 3) := by decide +kernel
theorem dX9_pass_52 : decode cX9_pass 52 = .ok (.aload_n 0, 1) := by decide +kernel
theorem dX9_pass_53 : decode cX9_pass 53 = .ok (.getfield 207, 3) := by decide +kernel
theorem dX9_pass_56 : decode cX9_pass 56 = .ok (.ireturn, 1) := by decide +kernel
theorem dX9_canopy_0 : decode cX9_canopy 0 = .ok (.aload_n 0, 1) := by decide +kernel
theorem dX9_canopy_1 : decode cX9_canopy 1 = .ok (.aload_n 0, 1) := by decide +kernel
theorem dX9_canopy_2 : decode cX9_canopy 2 = .ok (.iload_n 1, 1) := by decide +kernel
theorem dX9_canopy_3 : decode cX9_canopy 3 = .ok (.invokevirtual 115, 3) := by decide +kernel
theorem dX9_canopy_6 : decode cX9_canopy 6 = .ok (.ifCond .ne 7, 3) := by decide +kernel
theorem dX9_canopy_9 : decode cX9_canopy 9 = .ok (.iconst 1, 1) := by decide +kernel
theorem dX9_canopy_10 : decode cX9_canopy 10 = .ok (.goto 17, 3) := by decide +kernel
theorem dX9_canopy_13 : decode cX9_canopy 13 = .ok (.aload_n 0, 1) := by decide +kernel
theorem dX9_canopy_14 : decode cX9_canopy 14 = .ok (.getfield 204, 3) := by decide +kernel
theorem dX9_canopy_17 : decode cX9_canopy 17 = .ok (.bipush 6, 2) := by decide +kernel
theorem dX9_canopy_19 : decode cX9_canopy 19 = .ok (.if_icmp .ne 7, 3) := by decide +kernel
theorem dX9_canopy_22 : decode cX9_canopy 22 = .ok (.iconst 2, 1) := by decide +kernel
theorem dX9_canopy_23 : decode cX9_canopy 23 = .ok (.goto 4, 3) := by decide +kernel
theorem dX9_canopy_26 : decode cX9_canopy 26 = .ok (.iconst 0, 1) := by decide +kernel
theorem dX9_canopy_27 : decode cX9_canopy 27 = .ok (.invokevirtual 111, 3) := by decide +kernel
theorem dX9_canopy_30 : decode cX9_canopy 30 = .ok (.ifCond .ne 5, 3) := by decide +kernel
theorem dX9_canopy_33 : decode cX9_canopy 33 = .ok (.iconst 0, 1) := by decide +kernel
theorem dX9_canopy_34 : decode cX9_canopy 34 = .ok (.ireturn, 1) := by decide +kernel
theorem dX9_canopy_35 : decode cX9_canopy 35 = .ok (.aload_n 0, 1) := by decide +kernel
theorem dX9_canopy_36 : decode cX9_canopy 36 = .ok (.getfield 69, 3) := by decide +kernel
theorem dX9_canopy_39 : decode cX9_canopy 39 = .ok (.aload_n 0, 1) := by decide +kernel
theorem dX9_canopy_40 : decode cX9_canopy 40 = .ok (.getfield 204, 3) := by decide +kernel
theorem dX9_canopy_43 : decode cX9_canopy 43 = .ok (.iload_n 1, 1) := by decide +kernel
theorem dX9_canopy_44 : decode cX9_canopy 44 = .ok (.iastore, 1) := by decide +kernel
theorem dX9_canopy_45 : decode cX9_canopy 45 = .ok (.aload_n 0, 1) := by decide +kernel
theorem dX9_canopy_46 : decode cX9_canopy 46 = .ok (.getfield 78, 3) := by decide +kernel
theorem dX9_canopy_49 : decode cX9_canopy 49 = .ok (.aload_n 0, 1) := by decide +kernel
theorem dX9_canopy_50 : decode cX9_canopy 50 = .ok (.getfield 204, 3) := by decide +kernel
theorem dX9_canopy_53 : decode cX9_canopy 53 = .ok (.iconst (-1), 1) := by decide +kernel
theorem dX9_canopy_54 : decode cX9_canopy 54 = .ok (.iastore, 1) := by decide +kernel
theorem dX9_canopy_55 : decode cX9_canopy 55 = .ok (.aload_n 0, 1) := by decide +kernel
theorem dX9_canopy_56 : decode cX9_canopy 56 = .ok (.getfield 81, 3) := by decide +kernel
theorem dX9_canopy_59 : decode cX9_canopy 59 = .ok (.aload_n 0, 1) := by decide +kernel
theorem dX9_canopy_60 : decode cX9_canopy 60 = .ok (.getfield 204, 3) := by decide +kernel
theorem dX9_canopy_63 : decode cX9_canopy 63 = .ok (.iconst (-1), 1) := by decide +kernel
theorem dX9_canopy_64 : decode cX9_canopy 64 = .ok (.iastore, 1) := by decide +kernel
theorem dX9_canopy_65 : decode cX9_canopy 65 = .ok (.aload_n 0, 1) := by decide +kernel
theorem dX9_canopy_66 : decode cX9_canopy 66 = .ok (.dup, 1) := by decide +kernel
theorem dX9_canopy_67 : decode cX9_canopy 67 = .ok (.getfield 204, 3) := by decide +kernel
theorem dX9_canopy_70 : decode cX9_canopy 70 = .ok (.iconst 1, 1) := by decide +kernel
theorem dX9_canopy_71 : decode cX9_canopy 71 = .ok (.iadd, 1) := by decide +kernel
theorem dX9_canopy_72 : decode cX9_canopy 72 = .ok (.putfield 204, 3) := by decide +kernel
theorem dX9_canopy_75 : decode cX9_canopy 75 = .ok (.aload_n 0, 1) := by decide +kernel
theorem dX9_canopy_76 : decode cX9_canopy 76 = .ok (.getfield 204, 3) := by decide +kernel
theorem dX9_canopy_79 : decode cX9_canopy 79 = .ok (.iconst 1, 1) := by decide +kernel
theorem dX9_canopy_80 : decode cX9_canopy 80 = .ok (.isub, 1) := by decide +kernel
theorem dX9_canopy_81 : decode cX9_canopy 81 = .ok (.ireturn, 1) := by decide +kernel
theorem dX9_part_0 : decode cX9_part 0 = .ok (.aload_n 0, 1) := by decide +kernel
theorem dX9_part_1 : decode cX9_part 1 = .ok (.iload_n 1, 1) := by decide +kernel
theorem dX9_part_2 : decode cX9_part 2 = .ok (.invokevirtual 210, 3) := by decide +kernel
theorem dX9_part_5 : decode cX9_part 5 = .ok (.istore_n 3, 1) := by decide +kernel
theorem dX9_part_6 : decode cX9_part 6 = .ok (.aload_n 0, 1) := by decide +kernel
theorem dX9_part_7 : decode cX9_part 7 = .ok (.iload_n 3, 1) := by decide +kernel
theorem dX9_part_8 : decode cX9_part 8 = .ok (.ifCond .ne 7, 3) := by decide +kernel
theorem dX9_part_11 : decode cX9_part 11 = .ok (.iconst 1, 1) := by decide +kernel
theorem dX9_part_12 : decode cX9_part 12 = .ok (.goto 42, 3) := by decide +kernel
theorem dX9_part_15 : decode cX9_part 15 = .ok (.iload_n 2, 1) := by decide +kernel
theorem dX9_part_16 : decode cX9_part 16 = .ok (.iconst 0, 1) := by decide +kernel
theorem dX9_part_17 : decode cX9_part 17 = .ok (.sipush 255, 3) := by decide +kernel
theorem dX9_part_20 : decode cX9_part 20 = .ok (.invokestatic 103, 3) := by decide +kernel
theorem dX9_part_23 : decode cX9_part 23 = .ok (.ifCond .ne 7, 3) := by decide +kernel
theorem dX9_part_26 : decode cX9_part 26 = .ok (.iconst 2, 1) := by decide +kernel
theorem dX9_part_27 : decode cX9_part 27 = .ok (.goto 27, 3) := by decide +kernel
theorem dX9_part_30 : decode cX9_part 30 = .ok (.aload_n 0, 1) := by decide +kernel
theorem dX9_part_31 : decode cX9_part 31 = .ok (.getfield 72, 3) := by decide +kernel
theorem dX9_part_34 : decode cX9_part 34 = .ok (.iload_n 1, 1) := by decide +kernel
theorem dX9_part_35 : decode cX9_part 35 = .ok (.iaload, 1) := by decide +kernel
theorem dX9_part_36 : decode cX9_part 36 = .ok (.bipush 8, 2) := by decide +kernel
theorem dX9_part_38 : decode cX9_part 38 = .ok (.if_icmp .eq 11, 3) := by decide +kernel
theorem dX9_part_41 : decode cX9_part 41 = .ok (.aload_n 0, 1) := by decide +kernel
theorem dX9_part_42 : decode cX9_part 42 = .ok (.iload_n 1, 1) := by decide +kernel
theorem dX9_part_43 : decode cX9_part 43 = .ok (.invokevirtual 213, 3) := by decide +kernel
theorem dX9_part_46 : decode cX9_part 46 = .ok (.ifCond .eq 7, 3) := by decide +kernel
theorem dX9_part_49 : decode cX9_part 49 = .ok (.iconst 3, 1) := by decide +kernel
theorem dX9_part_50 : decode cX9_part 50 = .ok (.goto 4, 3) := by decide +kernel
theorem dX9_part_53 : decode cX9_part 53 = .ok (.iconst 0, 1) := by decide +kernel
theorem dX9_part_54 : decode cX9_part 54 = .ok (.invokevirtual 111, 3) := by decide +kernel
theorem dX9_part_57 : decode cX9_part 57 = .ok (.ifCond .ne 5, 3) := by decide +kernel
theorem dX9_part_60 : decode cX9_part 60 = .ok (.iconst 0, 1) := by decide +kernel
theorem dX9_part_61 : decode cX9_part 61 = .ok (.ireturn, 1) := by decide +kernel
theorem dX9_part_62 : decode cX9_part 62 = .ok (.aload_n 0, 1) := by decide +kernel
theorem dX9_part_63 : decode cX9_part 63 = .ok (.getfield 75, 3) := by decide +kernel
theorem dX9_part_66 : decode cX9_part 66 = .ok (.bipush 8, 2) := by decide +kernel
theorem dX9_part_68 : decode cX9_part 68 = .ok (.iload_n 1, 1) := by decide +kernel
theorem dX9_part_69 : decode cX9_part 69 = .ok (.imul, 1) := by decide +kernel
theorem dX9_part_70 : decode cX9_part 70 = .ok (.aload_n 0, 1) := by decide +kernel
theorem dX9_part_71 : decode cX9_part 71 = .ok (.getfield 72, 3) := by decide +kernel
theorem dX9_part_74 : decode cX9_part 74 = .ok (.iload_n 1, 1) := by decide +kernel
theorem dX9_part_75 : decode cX9_part 75 = .ok (.iaload, 1) := by decide +kernel
theorem dX9_part_76 : decode cX9_part 76 = .ok (.iadd, 1) := by decide +kernel
theorem dX9_part_77 : decode cX9_part 77 = .ok (.iload_n 2, 1) := by decide +kernel
theorem dX9_part_78 : decode cX9_part 78 = .ok (.iastore, 1) := by decide +kernel
theorem dX9_part_79 : decode cX9_part 79 = .ok (.aload_n 0, 1) := by decide +kernel
theorem dX9_part_80 : decode cX9_part 80 = .ok (.getfield 72, 3) := by decide +kernel
theorem dX9_part_83 : decode cX9_part 83 = .ok (.iload_n 1, 1) := by decide +kernel
theorem dX9_part_84 : decode cX9_part 84 = .ok (.dup2, 1) := by decide +kernel
theorem dX9_part_85 : decode cX9_part 85 = .ok (.iaload, 1) := by decide +kernel
theorem dX9_part_86 : decode cX9_part 86 = .ok (.iconst 1, 1) := by decide +kernel
theorem dX9_part_87 : decode cX9_part 87 = .ok (.iadd, 1) := by decide +kernel
theorem dX9_part_88 : decode cX9_part 88 = .ok (.iastore, 1) := by decide +kernel
theorem dX9_part_89 : decode cX9_part 89 = .ok (.aload_n 0, 1) := by decide +kernel
theorem dX9_part_90 : decode cX9_part 90 = .ok (.getfield 72, 3) := by decide +kernel
theorem dX9_part_93 : decode cX9_part 93 = .ok (.iload_n 1, 1) := by decide +kernel
theorem dX9_part_94 : decode cX9_part 94 = .ok (.iaload, 1) := by decide +kernel
theorem dX9_part_95 : decode cX9_part 95 = .ok (.iconst 1, 1) := by decide +kernel
theorem dX9_part_96 : decode cX9_part 96 = .ok (.isub, 1) := by decide +kernel
theorem dX9_part_97 : decode cX9_part 97 = .ok (.ireturn, 1) := by decide +kernel
theorem dX9_rounds_0 : decode cX9_rounds 0 = .ok (.iconst 1, 1) := by decide +kernel
theorem dX9_rounds_1 : decode cX9_rounds 1 = .ok (.aload_n 0, 1) := by decide +kernel
theorem dX9_rounds_2 : decode cX9_rounds 2 = .ok (.getfield 72, 3) := by decide +kernel
theorem dX9_rounds_5 : decode cX9_rounds 5 = .ok (.iload_n 1, 1) := by decide +kernel
theorem dX9_rounds_6 : decode cX9_rounds 6 = .ok (.iaload, 1) := by decide +kernel
theorem dX9_rounds_7 : decode cX9_rounds 7 = .ok (.ishl, 1) := by decide +kernel
theorem dX9_rounds_8 : decode cX9_rounds 8 = .ok (.iconst 1, 1) := by decide +kernel
theorem dX9_rounds_9 : decode cX9_rounds 9 = .ok (.isub, 1) := by decide +kernel
theorem dX9_rounds_10 : decode cX9_rounds 10 = .ok (.istore_n 2, 1) := by decide +kernel
theorem dX9_rounds_11 : decode cX9_rounds 11 = .ok (.iconst 0, 1) := by decide +kernel
theorem dX9_rounds_12 : decode cX9_rounds 12 = .ok (.istore_n 3, 1) := by decide +kernel
theorem dX9_rounds_13 : decode cX9_rounds 13 = .ok (.iconst 1, 1) := by decide +kernel
theorem dX9_rounds_14 : decode cX9_rounds 14 = .ok (.istore 4, 2) := by decide +kernel
theorem dX9_rounds_16 : decode cX9_rounds 16 = .ok (.iload 4, 2) := by decide +kernel
theorem dX9_rounds_18 : decode cX9_rounds 18 = .ok (.ifCond .eq 107, 3) := by decide +kernel
theorem dX9_rounds_21 : decode cX9_rounds 21 = .ok (.iload_n 2, 1) := by decide +kernel
theorem dX9_rounds_22 : decode cX9_rounds 22 = .ok (.ifCond .eq 103, 3) := by decide +kernel
theorem dX9_rounds_25 : decode cX9_rounds 25 = .ok (.iconst 0, 1) := by decide +kernel
theorem dX9_rounds_26 : decode cX9_rounds 26 = .ok (.istore 5, 2) := by decide +kernel
theorem dX9_rounds_28 : decode cX9_rounds 28 = .ok (.iconst 0, 1) := by decide +kernel
theorem dX9_rounds_29 : decode cX9_rounds 29 = .ok (.istore 6, 2) := by decide +kernel
theorem dX9_rounds_31 : decode cX9_rounds 31 = .ok (.iload 6, 2) := by decide +kernel
theorem dX9_rounds_33 : decode cX9_rounds 33 = .ok (.aload_n 0, 1) := by decide +kernel
theorem dX9_rounds_34 : decode cX9_rounds 34 = .ok (.getfield 72, 3) := by decide +kernel
theorem dX9_rounds_37 : decode cX9_rounds 37 = .ok (.iload_n 1, 1) := by decide +kernel
theorem dX9_rounds_38 : decode cX9_rounds 38 = .ok (.iaload, 1) := by decide +kernel
theorem dX9_rounds_39 : decode cX9_rounds 39 = .ok (.if_icmp .ge 61, 3) := by decide +kernel
theorem dX9_rounds_42 : decode cX9_rounds 42 = .ok (.iload_n 2, 1) := by decide +kernel
theorem dX9_rounds_43 : decode cX9_rounds 43 = .ok (.iload 6, 2) := by decide +kernel
theorem dX9_rounds_45 : decode cX9_rounds 45 = .ok (.ishr, 1) := by decide +kernel
theorem dX9_rounds_46 : decode cX9_rounds 46 = .ok (.iconst 1, 1) := by decide +kernel
theorem dX9_rounds_47 : decode cX9_rounds 47 = .ok (.iand, 1) := by decide +kernel
theorem dX9_rounds_48 : decode cX9_rounds 48 = .ok (.iconst 1, 1) := by decide +kernel
theorem dX9_rounds_49 : decode cX9_rounds 49 = .ok (.if_icmp .ne 24, 3) := by decide +kernel
theorem dX9_rounds_52 : decode cX9_rounds 52 = .ok (.aload_n 0, 1) := by decide +kernel
theorem dX9_rounds_53 : decode cX9_rounds 53 = .ok (.getfield 75, 3) := by decide +kernel
theorem dX9_rounds_56 : decode cX9_rounds 56 = .ok (.bipush 8, 2) := by decide +kernel
theorem dX9_rounds_58 : decode cX9_rounds 58 = .ok (.iload_n 1, 1) := by decide +kernel
theorem dX9_rounds_59 : decode cX9_rounds 59 = .ok (.imul, 1) := by decide +kernel
theorem dX9_rounds_60 : decode cX9_rounds 60 = .ok (.iload 6, 2) := by decide +kernel
theorem dX9_rounds_62 : decode cX9_rounds 62 = .ok (.iadd, 1) := by decide +kernel
theorem dX9_rounds_63 : decode cX9_rounds 63 = .ok (.iaload, 1) := by decide +kernel
theorem dX9_rounds_64 : decode cX9_rounds 64 = .ok (.iload_n 2, 1) := by decide +kernel
theorem dX9_rounds_65 : decode cX9_rounds 65 = .ok (.iand, 1) := by decide +kernel
theorem dX9_rounds_66 : decode cX9_rounds 66 = .ok (.ifCond .ne 7, 3) := by decide +kernel
theorem dX9_rounds_69 : decode cX9_rounds 69 = .ok (.iconst 1, 1) := by decide +kernel
theorem dX9_rounds_70 : decode cX9_rounds 70 = .ok (.goto 4, 3) := by decide +kernel
theorem dX9_rounds_73 : decode cX9_rounds 73 = .ok (.iconst 0, 1) := by decide +kernel
theorem dX9_rounds_74 : decode cX9_rounds 74 = .ok (.istore 7, 2) := by decide +kernel
theorem dX9_rounds_76 : decode cX9_rounds 76 = .ok (.iload 5, 2) := by decide +kernel
theorem dX9_rounds_78 : decode cX9_rounds 78 = .ok (.iload 7, 2) := by decide +kernel
theorem dX9_rounds_80 : decode cX9_rounds 80 = .ok (.ifCond .eq 10, 3) := by decide +kernel
theorem dX9_rounds_83 : decode cX9_rounds 83 = .ok (.iconst 1, 1) := by decide +kernel
theorem dX9_rounds_84 : decode cX9_rounds 84 = .ok (.iload 6, 2) := by decide +kernel
theorem dX9_rounds_86 : decode cX9_rounds 86 = .ok (.ishl, 1) := by decide +kernel
theorem dX9_rounds_87 : decode cX9_rounds 87 = .ok (.goto 4, 3) := by decide +kernel
theorem dX9_rounds_90 : decode cX9_rounds 90 = .ok (.iconst 0, 1) := by decide +kernel
theorem dX9_rounds_91 : decode cX9_rounds 91 = .ok (.ior, 1) := by decide +kernel
theorem dX9_rounds_92 : decode cX9_rounds 92 = .ok (.istore 5, 2) := by decide +kernel
theorem dX9_rounds_94 : decode cX9_rounds 94 = .ok (.iinc 6 1, 3) := by decide +kernel
theorem dX9_rounds_97 : decode cX9_rounds 97 = .ok (.goto (-66), 3) := by decide +kernel
theorem dX9_rounds_100 : decode cX9_rounds 100 = .ok (.iload_n 2, 1) := by decide +kernel
theorem dX9_rounds_101 : decode cX9_rounds 101 = .ok (.iload 5, 2) := by decide +kernel
theorem dX9_rounds_103 : decode cX9_rounds 103 = .ok (.iconst (-1), 1) := by decide +kernel
theorem dX9_rounds_104 : decode cX9_rounds 104 = .ok (.ixor, 1) := by decide +kernel
theorem dX9_rounds_105 : decode cX9_rounds 105 = .ok (.iand, 1) := by decide +kernel
theorem dX9_rounds_106 : decode cX9_rounds 106 = .ok (.istore_n 2, 1) := by decide +kernel
theorem dX9_rounds_107 : decode cX9_rounds 107 = .ok (.iload 5, 2) := by decide +kernel
theorem dX9_rounds_109 : decode cX9_rounds 109 = .ok (.ifCond .eq 7, 3) := by decide +kernel
theorem dX9_rounds_112 : decode cX9_rounds 112 = .ok (.iconst 1, 1) := by decide +kernel
theorem dX9_rounds_113 : decode cX9_rounds 113 = .ok (.goto 4, 3) := by decide +kernel
theorem dX9_rounds_116 : decode cX9_rounds 116 = .ok (.iconst 0, 1) := by decide +kernel
theorem dX9_rounds_117 : decode cX9_rounds 117 = .ok (.istore 4, 2) := by decide +kernel
theorem dX9_rounds_119 : decode cX9_rounds 119 = .ok (.iinc 3 1, 3) := by decide +kernel
theorem dX9_rounds_122 : decode cX9_rounds 122 = .ok (.goto (-106), 3) := by decide +kernel
theorem dX9_rounds_125 : decode cX9_rounds 125 = .ok (.iload_n 2, 1) := by decide +kernel
theorem dX9_rounds_126 : decode cX9_rounds 126 = .ok (.ifCond .ne 7, 3) := by decide +kernel
theorem dX9_rounds_129 : decode cX9_rounds 129 = .ok (.iload_n 3, 1) := by decide +kernel
theorem dX9_rounds_130 : decode cX9_rounds 130 = .ok (.goto 4, 3) := by decide +kernel
theorem dX9_rounds_133 : decode cX9_rounds 133 = .ok (.iconst (-1), 1) := by decide +kernel
theorem dX9_rounds_134 : decode cX9_rounds 134 = .ok (.ireturn, 1) := by decide +kernel
theorem dX9_opens_0 : decode cX9_opens 0 = .ok (.aload_n 0, 1) := by decide +kernel
theorem dX9_opens_1 : decode cX9_opens 1 = .ok (.aload_n 0, 1) := by decide +kernel
theorem dX9_opens_2 : decode cX9_opens 2 = .ok (.iload_n 1, 1) := by decide +kernel
theorem dX9_opens_3 : decode cX9_opens 3 = .ok (.invokevirtual 210, 3) := by decide +kernel
theorem dX9_opens_6 : decode cX9_opens 6 = .ok (.ifCond .eq 7, 3) := by decide +kernel
theorem dX9_opens_9 : decode cX9_opens 9 = .ok (.iconst 0, 1) := by decide +kernel
theorem dX9_opens_10 : decode cX9_opens 10 = .ok (.goto 4, 3) := by decide +kernel
theorem dX9_opens_13 : decode cX9_opens 13 = .ok (.iconst 1, 1) := by decide +kernel
theorem dX9_opens_14 : decode cX9_opens 14 = .ok (.invokevirtual 111, 3) := by decide +kernel
theorem dX9_opens_17 : decode cX9_opens 17 = .ok (.ifCond .eq 11, 3) := by decide +kernel
theorem dX9_opens_20 : decode cX9_opens 20 = .ok (.aload_n 0, 1) := by decide +kernel
theorem dX9_opens_21 : decode cX9_opens 21 = .ok (.iload_n 1, 1) := by decide +kernel
theorem dX9_opens_22 : decode cX9_opens 22 = .ok (.invokevirtual 216, 3) := by decide +kernel
theorem dX9_opens_25 : decode cX9_opens 25 = .ok (.goto 4, 3) := by decide +kernel
theorem dX9_opens_28 : decode cX9_opens 28 = .ok (.iconst 0, 1) := by decide +kernel
theorem dX9_opens_29 : decode cX9_opens 29 = .ok (.ireturn, 1) := by decide +kernel
theorem dX9_canSeal_0 : decode cX9_canSeal 0 = .ok (.aload_n 0, 1) := by decide +kernel
theorem dX9_canSeal_1 : decode cX9_canSeal 1 = .ok (.iload_n 1, 1) := by decide +kernel
theorem dX9_canSeal_2 : decode cX9_canSeal 2 = .ok (.invokevirtual 213, 3) := by decide +kernel
theorem dX9_canSeal_5 : decode cX9_canSeal 5 = .ok (.ifCond .ne 49, 3) := by decide +kernel
theorem dX9_canSeal_8 : decode cX9_canSeal 8 = .ok (.aload_n 0, 1) := by decide +kernel
theorem dX9_canSeal_9 : decode cX9_canSeal 9 = .ok (.getfield 16, 3) := by decide +kernel
theorem dX9_canSeal_12 : decode cX9_canSeal 12 = .ok (.aload_n 0, 1) := by decide +kernel
theorem dX9_canSeal_13 : decode cX9_canSeal 13 = .ok (.getfield 69, 3) := by decide +kernel
theorem dX9_canSeal_16 : decode cX9_canSeal 16 = .ok (.iload_n 1, 1) := by decide +kernel
theorem dX9_canSeal_17 : decode cX9_canSeal 17 = .ok (.iaload, 1) := by decide +kernel
theorem dX9_canSeal_18 : decode cX9_canSeal 18 = .ok (.baload, 1) := by decide +kernel
theorem dX9_canSeal_19 : decode cX9_canSeal 19 = .ok (.ifCond .ne 35, 3) := by decide +kernel
theorem dX9_canSeal_22 : decode cX9_canSeal 22 = .ok (.aload_n 0, 1) := by decide +kernel
theorem dX9_canSeal_23 : decode cX9_canSeal 23 = .ok (.getfield 72, 3) := by decide +kernel
theorem dX9_canSeal_26 : decode cX9_canSeal 26 = .ok (.iload_n 1, 1) := by decide +kernel
theorem dX9_canSeal_27 : decode cX9_canSeal 27 = .ok (.iaload, 1) := by decide +kernel
theorem dX9_canSeal_28 : decode cX9_canSeal 28 = .ok (.ifCond .le 26, 3) := by decide +kernel
theorem dX9_canSeal_31 : decode cX9_canSeal 31 = .ok (.aload_n 0, 1) := by decide +kernel
theorem dX9_canSeal_32 : decode cX9_canSeal 32 = .ok (.iload_n 1, 1) := by decide +kernel
theorem dX9_canSeal_33 : decode cX9_canSeal 33 = .ok (.invokevirtual 216, 3) := by decide +kernel
theorem dX9_canSeal_36 : decode cX9_canSeal 36 = .ok (.iconst (-1), 1) := by decide +kernel
theorem dX9_canSeal_37 : decode cX9_canSeal 37 = .ok (.if_icmp .eq 17, 3) := by decide +kernel
theorem dX9_canSeal_40 : decode cX9_canSeal 40 = .ok (.aload_n 0, 1) := by decide +kernel
theorem dX9_canSeal_41 : decode cX9_canSeal 41 = .ok (.getfield 93, 3) := by decide +kernel
theorem dX9_canSeal_44 : decode cX9_canSeal 44 = .ok (.iload_n 1, 1) := by decide +kernel
theorem dX9_canSeal_45 : decode cX9_canSeal 45 = .ok (.iaload, 1) := by decide +kernel
theorem dX9_canSeal_46 : decode cX9_canSeal 46 = .ok (.iconst 3, 1) := by decide +kernel
theorem dX9_canSeal_47 : decode cX9_canSeal 47 = .ok (.if_icmp .ge 7, 3) := by decide +kernel
theorem dX9_canSeal_50 : decode cX9_canSeal 50 = .ok (.iconst 1, 1) := by decide +kernel
theorem dX9_canSeal_51 : decode cX9_canSeal 51 = .ok (.goto 4, 3) := by decide +kernel
theorem dX9_canSeal_54 : decode cX9_canSeal 54 = .ok (.iconst 0, 1) := by decide +kernel
theorem dX9_canSeal_55 : decode cX9_canSeal 55 = .ok (.ireturn, 1) := by decide +kernel
theorem dX9_seal_0 : decode cX9_seal 0 = .ok (.aload_n 0, 1) := by decide +kernel
theorem dX9_seal_1 : decode cX9_seal 1 = .ok (.iload_n 1, 1) := by decide +kernel
theorem dX9_seal_2 : decode cX9_seal 2 = .ok (.invokevirtual 210, 3) := by decide +kernel
theorem dX9_seal_5 : decode cX9_seal 5 = .ok (.ifCond .eq 16, 3) := by decide +kernel
theorem dX9_seal_8 : decode cX9_seal 8 = .ok (.iload_n 2, 1) := by decide +kernel
theorem dX9_seal_9 : decode cX9_seal 9 = .ok (.iconst 0, 1) := by decide +kernel
theorem dX9_seal_10 : decode cX9_seal 10 = .ok (.iconst 4, 1) := by decide +kernel
theorem dX9_seal_11 : decode cX9_seal 11 = .ok (.invokestatic 103, 3) := by decide +kernel
theorem dX9_seal_14 : decode cX9_seal 14 = .ok (.ifCond .eq 7, 3) := by decide +kernel
theorem dX9_seal_17 : decode cX9_seal 17 = .ok (.iconst 1, 1) := by decide +kernel
theorem dX9_seal_18 : decode cX9_seal 18 = .ok (.goto 4, 3) := by decide +kernel
theorem dX9_seal_21 : decode cX9_seal 21 = .ok (.iconst 0, 1) := by decide +kernel
theorem dX9_seal_22 : decode cX9_seal 22 = .ok (.istore_n 3, 1) := by decide +kernel
theorem dX9_seal_23 : decode cX9_seal 23 = .ok (.aload_n 0, 1) := by decide +kernel
theorem dX9_seal_24 : decode cX9_seal 24 = .ok (.iload_n 3, 1) := by decide +kernel
theorem dX9_seal_25 : decode cX9_seal 25 = .ok (.ifCond .ne 7, 3) := by decide +kernel
theorem dX9_seal_28 : decode cX9_seal 28 = .ok (.iconst 1, 1) := by decide +kernel
theorem dX9_seal_29 : decode cX9_seal 29 = .ok (.goto 16, 3) := by decide +kernel
theorem dX9_seal_32 : decode cX9_seal 32 = .ok (.aload_n 0, 1) := by decide +kernel
theorem dX9_seal_33 : decode cX9_seal 33 = .ok (.iload_n 1, 1) := by decide +kernel
theorem dX9_seal_34 : decode cX9_seal 34 = .ok (.invokevirtual 219, 3) := by decide +kernel
theorem dX9_seal_37 : decode cX9_seal 37 = .ok (.ifCond .eq 7, 3) := by decide +kernel
theorem dX9_seal_40 : decode cX9_seal 40 = .ok (.iconst 0, 1) := by decide +kernel
theorem dX9_seal_41 : decode cX9_seal 41 = .ok (.goto 4, 3) := by decide +kernel
theorem dX9_seal_44 : decode cX9_seal 44 = .ok (.iconst 2, 1) := by decide +kernel
theorem dX9_seal_45 : decode cX9_seal 45 = .ok (.invokevirtual 111, 3) := by decide +kernel
theorem dX9_seal_48 : decode cX9_seal 48 = .ok (.ifCond .ne 5, 3) := by decide +kernel
theorem dX9_seal_51 : decode cX9_seal 51 = .ok (.iconst 0, 1) := by decide +kernel
theorem dX9_seal_52 : decode cX9_seal 52 = .ok (.ireturn, 1) := by decide +kernel
theorem dX9_seal_53 : decode cX9_seal 53 = .ok (.aload_n 0, 1) := by decide +kernel
theorem dX9_seal_54 : decode cX9_seal 54 = .ok (.getfield 78, 3) := by decide +kernel
theorem dX9_seal_57 : decode cX9_seal 57 = .ok (.iload_n 1, 1) := by decide +kernel
theorem dX9_seal_58 : decode cX9_seal 58 = .ok (.iload_n 2, 1) := by decide +kernel
theorem dX9_seal_59 : decode cX9_seal 59 = .ok (.iastore, 1) := by decide +kernel
theorem dX9_seal_60 : decode cX9_seal 60 = .ok (.aload_n 0, 1) := by decide +kernel
theorem dX9_seal_61 : decode cX9_seal 61 = .ok (.getfield 81, 3) := by decide +kernel
theorem dX9_seal_64 : decode cX9_seal 64 = .ok (.iload_n 1, 1) := by decide +kernel
theorem dX9_seal_65 : decode cX9_seal 65 = .ok (.aload_n 0, 1) := by decide +kernel
theorem dX9_seal_66 : decode cX9_seal 66 = .ok (.getfield 207, 3) := by decide +kernel
theorem dX9_seal_69 : decode cX9_seal 69 = .ok (.iastore, 1) := by decide +kernel
theorem dX9_seal_70 : decode cX9_seal 70 = .ok (.aload_n 0, 1) := by decide +kernel
theorem dX9_seal_71 : decode cX9_seal 71 = .ok (.getfield 84, 3) := by decide +kernel
theorem dX9_seal_74 : decode cX9_seal 74 = .ok (.iload_n 1, 1) := by decide +kernel
theorem dX9_seal_75 : decode cX9_seal 75 = .ok (.dup2, 1) := by decide +kernel
theorem dX9_seal_76 : decode cX9_seal 76 = .ok (.iaload, 1) := by decide +kernel
theorem dX9_seal_77 : decode cX9_seal 77 = .ok (.iconst 1, 1) := by decide +kernel
theorem dX9_seal_78 : decode cX9_seal 78 = .ok (.iadd, 1) := by decide +kernel
theorem dX9_seal_79 : decode cX9_seal 79 = .ok (.iastore, 1) := by decide +kernel
theorem dX9_seal_80 : decode cX9_seal 80 = .ok (.aload_n 0, 1) := by decide +kernel
theorem dX9_seal_81 : decode cX9_seal 81 = .ok (.getfield 84, 3) := by decide +kernel
theorem dX9_seal_84 : decode cX9_seal 84 = .ok (.iload_n 1, 1) := by decide +kernel
theorem dX9_seal_85 : decode cX9_seal 85 = .ok (.iaload, 1) := by decide +kernel
theorem dX9_seal_86 : decode cX9_seal 86 = .ok (.ireturn, 1) := by decide +kernel
theorem dX9_unseals_0 : decode cX9_unseals 0 = .ok (.aload_n 0, 1) := by decide +kernel
theorem dX9_unseals_1 : decode cX9_unseals 1 = .ok (.getfield 78, 3) := by decide +kernel
theorem dX9_unseals_4 : decode cX9_unseals 4 = .ok (.iload_n 1, 1) := by decide +kernel
theorem dX9_unseals_5 : decode cX9_unseals 5 = .ok (.iconst (-1), 1) := by decide +kernel
theorem dX9_unseals_6 : decode cX9_unseals 6 = .ok (.iastore, 1) := by decide +kernel
theorem dX9_unseals_7 : decode cX9_unseals 7 = .ok (.aload_n 0, 1) := by decide +kernel
theorem dX9_unseals_8 : decode cX9_unseals 8 = .ok (.getfield 81, 3) := by decide +kernel
theorem dX9_unseals_11 : decode cX9_unseals 11 = .ok (.iload_n 1, 1) := by decide +kernel
theorem dX9_unseals_12 : decode cX9_unseals 12 = .ok (.iconst (-1), 1) := by decide +kernel
theorem dX9_unseals_13 : decode cX9_unseals 13 = .ok (.iastore, 1) := by decide +kernel
theorem dX9_unseals_14 : decode cX9_unseals 14 = .ok (.return_, 1) := by decide +kernel
theorem dX9_use_0 : decode cX9_use 0 = .ok (.aload_n 0, 1) := by decide +kernel
theorem dX9_use_1 : decode cX9_use 1 = .ok (.iload_n 1, 1) := by decide +kernel
theorem dX9_use_2 : decode cX9_use 2 = .ok (.invokevirtual 210, 3) := by decide +kernel
theorem dX9_use_5 : decode cX9_use 5 = .ok (.istore_n 2, 1) := by decide +kernel
theorem dX9_use_6 : decode cX9_use 6 = .ok (.aload_n 0, 1) := by decide +kernel
theorem dX9_use_7 : decode cX9_use 7 = .ok (.iload_n 2, 1) := by decide +kernel
theorem dX9_use_8 : decode cX9_use 8 = .ok (.ifCond .ne 7, 3) := by decide +kernel
theorem dX9_use_11 : decode cX9_use 11 = .ok (.iconst 1, 1) := by decide +kernel
theorem dX9_use_12 : decode cX9_use 12 = .ok (.goto 47, 3) := by decide +kernel
theorem dX9_use_15 : decode cX9_use 15 = .ok (.aload_n 0, 1) := by decide +kernel
theorem dX9_use_16 : decode cX9_use 16 = .ok (.iload_n 1, 1) := by decide +kernel
theorem dX9_use_17 : decode cX9_use 17 = .ok (.invokevirtual 213, 3) := by decide +kernel
theorem dX9_use_20 : decode cX9_use 20 = .ok (.ifCond .eq 34, 3) := by decide +kernel
theorem dX9_use_23 : decode cX9_use 23 = .ok (.aload_n 0, 1) := by decide +kernel
theorem dX9_use_24 : decode cX9_use 24 = .ok (.getfield 207, 3) := by decide +kernel
theorem dX9_use_27 : decode cX9_use 27 = .ok (.aload_n 0, 1) := by decide +kernel
theorem dX9_use_28 : decode cX9_use 28 = .ok (.getfield 81, 3) := by decide +kernel
theorem dX9_use_31 : decode cX9_use 31 = .ok (.iload_n 1, 1) := by decide +kernel
theorem dX9_use_32 : decode cX9_use 32 = .ok (.iaload, 1) := by decide +kernel
theorem dX9_use_33 : decode cX9_use 33 = .ok (.isub, 1) := by decide +kernel
theorem dX9_use_34 : decode cX9_use 34 = .ok (.sipush 180, 3) := by decide +kernel
theorem dX9_use_37 : decode cX9_use 37 = .ok (.if_icmp .gt 17, 3) := by decide +kernel
theorem dX9_use_40 : decode cX9_use 40 = .ok (.aload_n 0, 1) := by decide +kernel
theorem dX9_use_41 : decode cX9_use 41 = .ok (.getfield 16, 3) := by decide +kernel
theorem dX9_use_44 : decode cX9_use 44 = .ok (.aload_n 0, 1) := by decide +kernel
theorem dX9_use_45 : decode cX9_use 45 = .ok (.getfield 69, 3) := by decide +kernel
theorem dX9_use_48 : decode cX9_use 48 = .ok (.iload_n 1, 1) := by decide +kernel
theorem dX9_use_49 : decode cX9_use 49 = .ok (.iaload, 1) := by decide +kernel
theorem dX9_use_50 : decode cX9_use 50 = .ok (.baload, 1) := by decide +kernel
theorem dX9_use_51 : decode cX9_use 51 = .ok (.ifCond .eq 7, 3) := by decide +kernel
theorem dX9_use_54 : decode cX9_use 54 = .ok (.iconst 2, 1) := by decide +kernel
theorem dX9_use_55 : decode cX9_use 55 = .ok (.goto 4, 3) := by decide +kernel
theorem dX9_use_58 : decode cX9_use 58 = .ok (.iconst 0, 1) := by decide +kernel
theorem dX9_use_59 : decode cX9_use 59 = .ok (.invokevirtual 111, 3) := by decide +kernel
theorem dX9_use_62 : decode cX9_use 62 = .ok (.ifCond .ne 5, 3) := by decide +kernel
theorem dX9_use_65 : decode cX9_use 65 = .ok (.iconst 0, 1) := by decide +kernel
theorem dX9_use_66 : decode cX9_use 66 = .ok (.ireturn, 1) := by decide +kernel
theorem dX9_use_67 : decode cX9_use 67 = .ok (.aload_n 0, 1) := by decide +kernel
theorem dX9_use_68 : decode cX9_use 68 = .ok (.getfield 78, 3) := by decide +kernel
theorem dX9_use_71 : decode cX9_use 71 = .ok (.iload_n 1, 1) := by decide +kernel
theorem dX9_use_72 : decode cX9_use 72 = .ok (.iaload, 1) := by decide +kernel
theorem dX9_use_73 : decode cX9_use 73 = .ok (.istore_n 3, 1) := by decide +kernel
theorem dX9_use_74 : decode cX9_use 74 = .ok (.aload_n 0, 1) := by decide +kernel
theorem dX9_use_75 : decode cX9_use 75 = .ok (.iload_n 1, 1) := by decide +kernel
theorem dX9_use_76 : decode cX9_use 76 = .ok (.invokevirtual 222, 3) := by decide +kernel
theorem dX9_use_79 : decode cX9_use 79 = .ok (.aload_n 0, 1) := by decide +kernel
theorem dX9_use_80 : decode cX9_use 80 = .ok (.getfield 87, 3) := by decide +kernel
theorem dX9_use_83 : decode cX9_use 83 = .ok (.iload_n 1, 1) := by decide +kernel
theorem dX9_use_84 : decode cX9_use 84 = .ok (.dup2, 1) := by decide +kernel
theorem dX9_use_85 : decode cX9_use 85 = .ok (.iaload, 1) := by decide +kernel
theorem dX9_use_86 : decode cX9_use 86 = .ok (.iconst 1, 1) := by decide +kernel
theorem dX9_use_87 : decode cX9_use 87 = .ok (.iadd, 1) := by decide +kernel
theorem dX9_use_88 : decode cX9_use 88 = .ok (.iastore, 1) := by decide +kernel
theorem dX9_use_89 : decode cX9_use 89 = .ok (.iload_n 3, 1) := by decide +kernel
theorem dX9_use_90 : decode cX9_use 90 = .ok (.ireturn, 1) := by decide +kernel
theorem dX9_wet_0 : decode cX9_wet 0 = .ok (.aload_n 0, 1) := by decide +kernel
theorem dX9_wet_1 : decode cX9_wet 1 = .ok (.iload_n 1, 1) := by decide +kernel
theorem dX9_wet_2 : decode cX9_wet 2 = .ok (.invokevirtual 210, 3) := by decide +kernel
theorem dX9_wet_5 : decode cX9_wet 5 = .ok (.istore_n 3, 1) := by decide +kernel
theorem dX9_wet_6 : decode cX9_wet 6 = .ok (.aload_n 0, 1) := by decide +kernel
theorem dX9_wet_7 : decode cX9_wet 7 = .ok (.iload_n 3, 1) := by decide +kernel
theorem dX9_wet_8 : decode cX9_wet 8 = .ok (.ifCond .ne 7, 3) := by decide +kernel
theorem dX9_wet_11 : decode cX9_wet 11 = .ok (.iconst 1, 1) := by decide +kernel
theorem dX9_wet_12 : decode cX9_wet 12 = .ok (.goto 16, 3) := by decide +kernel
theorem dX9_wet_15 : decode cX9_wet 15 = .ok (.aload_n 0, 1) := by decide +kernel
theorem dX9_wet_16 : decode cX9_wet 16 = .ok (.iload_n 1, 1) := by decide +kernel
theorem dX9_wet_17 : decode cX9_wet 17 = .ok (.invokevirtual 213, 3) := by decide +kernel
theorem dX9_wet_20 : decode cX9_wet 20 = .ok (.ifCond .eq 7, 3) := by decide +kernel
theorem dX9_wet_23 : decode cX9_wet 23 = .ok (.iconst 2, 1) := by decide +kernel
theorem dX9_wet_24 : decode cX9_wet 24 = .ok (.goto 4, 3) := by decide +kernel
theorem dX9_wet_27 : decode cX9_wet 27 = .ok (.iconst 0, 1) := by decide +kernel
theorem dX9_wet_28 : decode cX9_wet 28 = .ok (.invokevirtual 111, 3) := by decide +kernel
theorem dX9_wet_31 : decode cX9_wet 31 = .ok (.ifCond .ne 5, 3) := by decide +kernel
theorem dX9_wet_34 : decode cX9_wet 34 = .ok (.iconst 0, 1) := by decide +kernel
theorem dX9_wet_35 : decode cX9_wet 35 = .ok (.ireturn, 1) := by decide +kernel
theorem dX9_wet_36 : decode cX9_wet 36 = .ok (.aload_n 0, 1) := by decide +kernel
theorem dX9_wet_37 : decode cX9_wet 37 = .ok (.getfield 90, 3) := by decide +kernel
theorem dX9_wet_40 : decode cX9_wet 40 = .ok (.iload_n 1, 1) := by decide +kernel
theorem dX9_wet_41 : decode cX9_wet 41 = .ok (.dup2, 1) := by decide +kernel
theorem dX9_wet_42 : decode cX9_wet 42 = .ok (.iaload, 1) := by decide +kernel
theorem dX9_wet_43 : decode cX9_wet 43 = .ok (.iload_n 2, 1) := by decide +kernel
theorem dX9_wet_44 : decode cX9_wet 44 = .ok (.ifCond .eq 7, 3) := by decide +kernel
theorem dX9_wet_47 : decode cX9_wet 47 = .ok (.iconst 0, 1) := by decide +kernel
theorem dX9_wet_48 : decode cX9_wet 48 = .ok (.goto 4, 3) := by decide +kernel
theorem dX9_wet_51 : decode cX9_wet 51 = .ok (.iconst 1, 1) := by decide +kernel
theorem dX9_wet_52 : decode cX9_wet 52 = .ok (.iadd, 1) := by decide +kernel
theorem dX9_wet_53 : decode cX9_wet 53 = .ok (.iastore, 1) := by decide +kernel
theorem dX9_wet_54 : decode cX9_wet 54 = .ok (.aload_n 0, 1) := by decide +kernel
theorem dX9_wet_55 : decode cX9_wet 55 = .ok (.getfield 93, 3) := by decide +kernel
theorem dX9_wet_58 : decode cX9_wet 58 = .ok (.iload_n 1, 1) := by decide +kernel
theorem dX9_wet_59 : decode cX9_wet 59 = .ok (.iload_n 2, 1) := by decide +kernel
theorem dX9_wet_60 : decode cX9_wet 60 = .ok (.ifCond .eq 7, 3) := by decide +kernel
theorem dX9_wet_63 : decode cX9_wet 63 = .ok (.iconst 0, 1) := by decide +kernel
theorem dX9_wet_64 : decode cX9_wet 64 = .ok (.goto 11, 3) := by decide +kernel
theorem dX9_wet_67 : decode cX9_wet 67 = .ok (.aload_n 0, 1) := by decide +kernel
theorem dX9_wet_68 : decode cX9_wet 68 = .ok (.getfield 93, 3) := by decide +kernel
theorem dX9_wet_71 : decode cX9_wet 71 = .ok (.iload_n 1, 1) := by decide +kernel
theorem dX9_wet_72 : decode cX9_wet 72 = .ok (.iaload, 1) := by decide +kernel
theorem dX9_wet_73 : decode cX9_wet 73 = .ok (.iconst 1, 1) := by decide +kernel
theorem dX9_wet_74 : decode cX9_wet 74 = .ok (.iadd, 1) := by decide +kernel
theorem dX9_wet_75 : decode cX9_wet 75 = .ok (.iastore, 1) := by decide +kernel
theorem dX9_wet_76 : decode cX9_wet 76 = .ok (.aload_n 0, 1) := by decide +kernel
theorem dX9_wet_77 : decode cX9_wet 77 = .ok (.getfield 93, 3) := by decide +kernel
theorem dX9_wet_80 : decode cX9_wet 80 = .ok (.iload_n 1, 1) := by decide +kernel
theorem dX9_wet_81 : decode cX9_wet 81 = .ok (.iaload, 1) := by decide +kernel
theorem dX9_wet_82 : decode cX9_wet 82 = .ok (.ireturn, 1) := by decide +kernel
theorem dX9_find_0 : decode cX9_find 0 = .ok (.aload_n 0, 1) := by decide +kernel
theorem dX9_find_1 : decode cX9_find 1 = .ok (.aload_n 0, 1) := by decide +kernel
theorem dX9_find_2 : decode cX9_find 2 = .ok (.iload_n 1, 1) := by decide +kernel
theorem dX9_find_3 : decode cX9_find 3 = .ok (.invokevirtual 115, 3) := by decide +kernel
theorem dX9_find_6 : decode cX9_find 6 = .ok (.ifCond .ne 7, 3) := by decide +kernel
theorem dX9_find_9 : decode cX9_find 9 = .ok (.iconst 1, 1) := by decide +kernel
theorem dX9_find_10 : decode cX9_find 10 = .ok (.goto 18, 3) := by decide +kernel
theorem dX9_find_13 : decode cX9_find 13 = .ok (.aload_n 0, 1) := by decide +kernel
theorem dX9_find_14 : decode cX9_find 14 = .ok (.getfield 16, 3) := by decide +kernel
theorem dX9_find_17 : decode cX9_find 17 = .ok (.iload_n 1, 1) := by decide +kernel
theorem dX9_find_18 : decode cX9_find 18 = .ok (.baload, 1) := by decide +kernel
theorem dX9_find_19 : decode cX9_find 19 = .ok (.iload_n 2, 1) := by decide +kernel
theorem dX9_find_20 : decode cX9_find 20 = .ok (.if_icmp .ne 7, 3) := by decide +kernel
theorem dX9_find_23 : decode cX9_find 23 = .ok (.iconst 2, 1) := by decide +kernel
theorem dX9_find_24 : decode cX9_find 24 = .ok (.goto 4, 3) := by decide +kernel
theorem dX9_find_27 : decode cX9_find 27 = .ok (.iconst 0, 1) := by decide +kernel
theorem dX9_find_28 : decode cX9_find 28 = .ok (.invokevirtual 111, 3) := by decide +kernel
theorem dX9_find_31 : decode cX9_find 31 = .ok (.ifCond .ne 5, 3) := by decide +kernel
theorem dX9_find_34 : decode cX9_find 34 = .ok (.iconst 0, 1) := by decide +kernel
theorem dX9_find_35 : decode cX9_find 35 = .ok (.ireturn, 1) := by decide +kernel
theorem dX9_find_36 : decode cX9_find 36 = .ok (.aload_n 0, 1) := by decide +kernel
theorem dX9_find_37 : decode cX9_find 37 = .ok (.getfield 16, 3) := by decide +kernel
theorem dX9_find_40 : decode cX9_find 40 = .ok (.iload_n 1, 1) := by decide +kernel
theorem dX9_find_41 : decode cX9_find 41 = .ok (.iload_n 2, 1) := by decide +kernel
theorem dX9_find_42 : decode cX9_find 42 = .ok (.bastore, 1) := by decide +kernel
theorem dX9_find_43 : decode cX9_find 43 = .ok (.iconst 0, 1) := by decide +kernel
theorem dX9_find_44 : decode cX9_find 44 = .ok (.istore_n 3, 1) := by decide +kernel
theorem dX9_find_45 : decode cX9_find 45 = .ok (.iconst 0, 1) := by decide +kernel
theorem dX9_find_46 : decode cX9_find 46 = .ok (.istore 4, 2) := by decide +kernel
theorem dX9_find_48 : decode cX9_find 48 = .ok (.iload 4, 2) := by decide +kernel
theorem dX9_find_50 : decode cX9_find 50 = .ok (.aload_n 0, 1) := by decide +kernel
theorem dX9_find_51 : decode cX9_find 51 = .ok (.getfield 204, 3) := by decide +kernel
theorem dX9_find_54 : decode cX9_find 54 = .ok (.if_icmp .ge 42, 3) := by decide +kernel
theorem dX9_find_57 : decode cX9_find 57 = .ok (.iload_n 2, 1) := by decide +kernel
theorem dX9_find_58 : decode cX9_find 58 = .ok (.ifCond .eq 38, 3) := by decide +kernel
theorem dX9_find_61 : decode cX9_find 61 = .ok (.aload_n 0, 1) := by decide +kernel
theorem dX9_find_62 : decode cX9_find 62 = .ok (.getfield 69, 3) := by decide +kernel
theorem dX9_find_65 : decode cX9_find 65 = .ok (.iload 4, 2) := by decide +kernel
theorem dX9_find_67 : decode cX9_find 67 = .ok (.iaload, 1) := by decide +kernel
theorem dX9_find_68 : decode cX9_find 68 = .ok (.iload_n 1, 1) := by decide +kernel
theorem dX9_find_69 : decode cX9_find 69 = .ok (.if_icmp .ne 21, 3) := by decide +kernel
theorem dX9_find_72 : decode cX9_find 72 = .ok (.aload_n 0, 1) := by decide +kernel
theorem dX9_find_73 : decode cX9_find 73 = .ok (.iload 4, 2) := by decide +kernel
theorem dX9_find_75 : decode cX9_find 75 = .ok (.invokevirtual 213, 3) := by decide +kernel
theorem dX9_find_78 : decode cX9_find 78 = .ok (.ifCond .eq 12, 3) := by decide +kernel
theorem dX9_find_81 : decode cX9_find 81 = .ok (.aload_n 0, 1) := by decide +kernel
theorem dX9_find_82 : decode cX9_find 82 = .ok (.iload 4, 2) := by decide +kernel
theorem dX9_find_84 : decode cX9_find 84 = .ok (.invokevirtual 222, 3) := by decide +kernel
theorem dX9_find_87 : decode cX9_find 87 = .ok (.iinc 3 1, 3) := by decide +kernel
theorem dX9_find_90 : decode cX9_find 90 = .ok (.iinc 4 1, 3) := by decide +kernel
theorem dX9_find_93 : decode cX9_find 93 = .ok (.goto (-45), 3) := by decide +kernel
theorem dX9_find_96 : decode cX9_find 96 = .ok (.iload_n 3, 1) := by decide +kernel
theorem dX9_find_97 : decode cX9_find 97 = .ok (.ireturn, 1) := by decide +kernel
theorem dX9_lifeOf_0 : decode cX9_lifeOf 0 = .ok (.iload_n 2, 1) := by decide +kernel
theorem dX9_lifeOf_1 : decode cX9_lifeOf 1 = .ok (.iconst 3, 1) := by decide +kernel
theorem dX9_lifeOf_2 : decode cX9_lifeOf 2 = .ok (.if_icmp .ne 12, 3) := by decide +kernel
theorem dX9_lifeOf_5 : decode cX9_lifeOf 5 = .ok (.aload_n 0, 1) := by decide +kernel
theorem dX9_lifeOf_6 : decode cX9_lifeOf 6 = .ok (.getfield 84, 3) := by decide +kernel
theorem dX9_lifeOf_9 : decode cX9_lifeOf 9 = .ok (.iload_n 1, 1) := by decide +kernel
theorem dX9_lifeOf_10 : decode cX9_lifeOf 10 = .ok (.iaload, 1) := by decide +kernel
theorem dX9_lifeOf_11 : decode cX9_lifeOf 11 = .ok (.goto 23, 3) := by decide +kernel
theorem dX9_lifeOf_14 : decode cX9_lifeOf 14 = .ok (.iload_n 2, 1) := by decide +kernel
theorem dX9_lifeOf_15 : decode cX9_lifeOf 15 = .ok (.iconst 4, 1) := by decide +kernel
theorem dX9_lifeOf_16 : decode cX9_lifeOf 16 = .ok (.if_icmp .ne 12, 3) := by decide +kernel
theorem dX9_lifeOf_19 : decode cX9_lifeOf 19 = .ok (.aload_n 0, 1) := by decide +kernel
theorem dX9_lifeOf_20 : decode cX9_lifeOf 20 = .ok (.getfield 87, 3) := by decide +kernel
theorem dX9_lifeOf_23 : decode cX9_lifeOf 23 = .ok (.iload_n 1, 1) := by decide +kernel
theorem dX9_lifeOf_24 : decode cX9_lifeOf 24 = .ok (.iaload, 1) := by decide +kernel
theorem dX9_lifeOf_25 : decode cX9_lifeOf 25 = .ok (.goto 9, 3) := by decide +kernel
theorem dX9_lifeOf_28 : decode cX9_lifeOf 28 = .ok (.aload_n 0, 1) := by decide +kernel
theorem dX9_lifeOf_29 : decode cX9_lifeOf 29 = .ok (.getfield 90, 3) := by decide +kernel
theorem dX9_lifeOf_32 : decode cX9_lifeOf 32 = .ok (.iload_n 1, 1) := by decide +kernel
theorem dX9_lifeOf_33 : decode cX9_lifeOf 33 = .ok (.iaload, 1) := by decide +kernel
theorem dX9_lifeOf_34 : decode cX9_lifeOf 34 = .ok (.ireturn, 1) := by decide +kernel
theorem dX9_ofCanopy_0 : decode cX9_ofCanopy 0 = .ok (.aload_n 0, 1) := by decide +kernel
theorem dX9_ofCanopy_1 : decode cX9_ofCanopy 1 = .ok (.aload_n 0, 1) := by decide +kernel
theorem dX9_ofCanopy_2 : decode cX9_ofCanopy 2 = .ok (.iload_n 1, 1) := by decide +kernel
theorem dX9_ofCanopy_3 : decode cX9_ofCanopy 3 = .ok (.invokevirtual 210, 3) := by decide +kernel
theorem dX9_ofCanopy_6 : decode cX9_ofCanopy 6 = .ok (.ifCond .ne 7, 3) := by decide +kernel
theorem dX9_ofCanopy_9 : decode cX9_ofCanopy 9 = .ok (.iconst 1, 1) := by decide +kernel
theorem dX9_ofCanopy_10 : decode cX9_ofCanopy 10 = .ok (.goto 17, 3) := by decide +kernel
theorem dX9_ofCanopy_13 : decode cX9_ofCanopy 13 = .ok (.iload_n 2, 1) := by decide +kernel
theorem dX9_ofCanopy_14 : decode cX9_ofCanopy 14 = .ok (.iconst 0, 1) := by decide +kernel
theorem dX9_ofCanopy_15 : decode cX9_ofCanopy 15 = .ok (.iconst 5, 1) := by decide +kernel
theorem dX9_ofCanopy_16 : decode cX9_ofCanopy 16 = .ok (.invokestatic 103, 3) := by decide +kernel
theorem dX9_ofCanopy_19 : decode cX9_ofCanopy 19 = .ok (.ifCond .eq 7, 3) := by decide +kernel
theorem dX9_ofCanopy_22 : decode cX9_ofCanopy 22 = .ok (.iconst 0, 1) := by decide +kernel
theorem dX9_ofCanopy_23 : decode cX9_ofCanopy 23 = .ok (.goto 4, 3) := by decide +kernel
theorem dX9_ofCanopy_26 : decode cX9_ofCanopy 26 = .ok (.iconst 2, 1) := by decide +kernel
theorem dX9_ofCanopy_27 : decode cX9_ofCanopy 27 = .ok (.invokevirtual 111, 3) := by decide +kernel
theorem dX9_ofCanopy_30 : decode cX9_ofCanopy 30 = .ok (.ifCond .ne 5, 3) := by decide +kernel
theorem dX9_ofCanopy_33 : decode cX9_ofCanopy 33 = .ok (.iconst 0, 1) := by decide +kernel
theorem dX9_ofCanopy_34 : decode cX9_ofCanopy 34 = .ok (.ireturn, 1) := by decide +kernel
theorem dX9_ofCanopy_35 : decode cX9_ofCanopy 35 = .ok (.iload_n 2, 1) := by decide +kernel
theorem dX9_ofCanopy_36 : decode cX9_ofCanopy 36 = .ok (.ifCond .ne 12, 3) := by decide +kernel
theorem dX9_ofCanopy_39 : decode cX9_ofCanopy 39 = .ok (.aload_n 0, 1) := by decide +kernel
theorem dX9_ofCanopy_40 : decode cX9_ofCanopy 40 = .ok (.getfield 69, 3) := by decide +kernel
theorem dX9_ofCanopy_43 : decode cX9_ofCanopy 43 = .ok (.iload_n 1, 1) := by decide +kernel
theorem dX9_ofCanopy_44 : decode cX9_ofCanopy 44 = .ok (.iaload, 1) := by decide +kernel
theorem dX9_ofCanopy_45 : decode cX9_ofCanopy 45 = .ok (.goto 37, 3) := by decide +kernel
theorem dX9_ofCanopy_48 : decode cX9_ofCanopy 48 = .ok (.iload_n 2, 1) := by decide +kernel
theorem dX9_ofCanopy_49 : decode cX9_ofCanopy 49 = .ok (.iconst 1, 1) := by decide +kernel
theorem dX9_ofCanopy_50 : decode cX9_ofCanopy 50 = .ok (.if_icmp .ne 12, 3) := by decide +kernel
theorem dX9_ofCanopy_53 : decode cX9_ofCanopy 53 = .ok (.aload_n 0, 1) := by decide +kernel
theorem dX9_ofCanopy_54 : decode cX9_ofCanopy 54 = .ok (.getfield 78, 3) := by decide +kernel
theorem dX9_ofCanopy_57 : decode cX9_ofCanopy 57 = .ok (.iload_n 1, 1) := by decide +kernel
theorem dX9_ofCanopy_58 : decode cX9_ofCanopy 58 = .ok (.iaload, 1) := by decide +kernel
theorem dX9_ofCanopy_59 : decode cX9_ofCanopy 59 = .ok (.goto 23, 3) := by decide +kernel
theorem dX9_ofCanopy_62 : decode cX9_ofCanopy 62 = .ok (.iload_n 2, 1) := by decide +kernel
theorem dX9_ofCanopy_63 : decode cX9_ofCanopy 63 = .ok (.iconst 2, 1) := by decide +kernel
theorem dX9_ofCanopy_64 : decode cX9_ofCanopy 64 = .ok (.if_icmp .ne 12, 3) := by decide +kernel
theorem dX9_ofCanopy_67 : decode cX9_ofCanopy 67 = .ok (.aload_n 0, 1) := by decide +kernel
theorem dX9_ofCanopy_68 : decode cX9_ofCanopy 68 = .ok (.getfield 81, 3) := by decide +kernel
theorem dX9_ofCanopy_71 : decode cX9_ofCanopy 71 = .ok (.iload_n 1, 1) := by decide +kernel
theorem dX9_ofCanopy_72 : decode cX9_ofCanopy 72 = .ok (.iaload, 1) := by decide +kernel
theorem dX9_ofCanopy_73 : decode cX9_ofCanopy 73 = .ok (.goto 9, 3) := by decide +kernel
theorem dX9_ofCanopy_76 : decode cX9_ofCanopy 76 = .ok (.aload_n 0, 1) := by decide +kernel
theorem dX9_ofCanopy_77 : decode cX9_ofCanopy 77 = .ok (.iload_n 1, 1) := by decide +kernel
theorem dX9_ofCanopy_78 : decode cX9_ofCanopy 78 = .ok (.iload_n 2, 1) := by decide +kernel
theorem dX9_ofCanopy_79 : decode cX9_ofCanopy 79 = .ok (.invokevirtual 226, 3) := by decide +kernel
theorem dX9_ofCanopy_82 : decode cX9_ofCanopy 82 = .ok (.ireturn, 1) := by decide +kernel
theorem dX9_lifeAnew_0 : decode cX9_lifeAnew 0 = .ok (.aload_n 0, 1) := by decide +kernel
theorem dX9_lifeAnew_1 : decode cX9_lifeAnew 1 = .ok (.aload_n 0, 1) := by decide +kernel
theorem dX9_lifeAnew_2 : decode cX9_lifeAnew 2 = .ok (.iload_n 1, 1) := by decide +kernel
theorem dX9_lifeAnew_3 : decode cX9_lifeAnew 3 = .ok (.invokevirtual 210, 3) := by decide +kernel
theorem dX9_lifeAnew_6 : decode cX9_lifeAnew 6 = .ok (.ifCond .ne 7, 3) := by decide +kernel
theorem dX9_lifeAnew_9 : decode cX9_lifeAnew 9 = .ok (.iconst 1, 1) := by decide +kernel
theorem dX9_lifeAnew_10 : decode cX9_lifeAnew 10 = .ok (.goto 17, 3) := by decide +kernel
theorem dX9_lifeAnew_13 : decode cX9_lifeAnew 13 = .ok (.iload_n 2, 1) := by decide +kernel
theorem dX9_lifeAnew_14 : decode cX9_lifeAnew 14 = .ok (.iconst 3, 1) := by decide +kernel
theorem dX9_lifeAnew_15 : decode cX9_lifeAnew 15 = .ok (.iconst 5, 1) := by decide +kernel
theorem dX9_lifeAnew_16 : decode cX9_lifeAnew 16 = .ok (.invokestatic 103, 3) := by decide +kernel
theorem dX9_lifeAnew_19 : decode cX9_lifeAnew 19 = .ok (.ifCond .eq 7, 3) := by decide +kernel
theorem dX9_lifeAnew_22 : decode cX9_lifeAnew 22 = .ok (.iconst 0, 1) := by decide +kernel
theorem dX9_lifeAnew_23 : decode cX9_lifeAnew 23 = .ok (.goto 4, 3) := by decide +kernel
theorem dX9_lifeAnew_26 : decode cX9_lifeAnew 26 = .ok (.iconst 2, 1) := by decide +kernel
theorem dX9_lifeAnew_27 : decode cX9_lifeAnew 27 = .ok (.invokevirtual 111, 3) := by decide +kernel
theorem dX9_lifeAnew_30 : decode cX9_lifeAnew 30 = .ok (.ifCond .eq 12, 3) := by decide +kernel
theorem dX9_lifeAnew_33 : decode cX9_lifeAnew 33 = .ok (.aload_n 0, 1) := by decide +kernel
theorem dX9_lifeAnew_34 : decode cX9_lifeAnew 34 = .ok (.iload_n 1, 1) := by decide +kernel
theorem dX9_lifeAnew_35 : decode cX9_lifeAnew 35 = .ok (.iload_n 2, 1) := by decide +kernel
theorem dX9_lifeAnew_36 : decode cX9_lifeAnew 36 = .ok (.invokevirtual 226, 3) := by decide +kernel
theorem dX9_lifeAnew_39 : decode cX9_lifeAnew 39 = .ok (.goto 4, 3) := by decide +kernel
theorem dX9_lifeAnew_42 : decode cX9_lifeAnew 42 = .ok (.iconst 0, 1) := by decide +kernel
theorem dX9_lifeAnew_43 : decode cX9_lifeAnew 43 = .ok (.ireturn, 1) := by decide +kernel
