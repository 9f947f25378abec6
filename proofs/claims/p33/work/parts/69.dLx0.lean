theorem dL_isRigged_0 : decode cL_isRigged 0 = .ok (.iload_n 2, 1) := by decide +kernel
theorem dL_isRigged_1 : decode cL_isRigged 1 = .ok (.ifCond .ne 44, 3) := by decide +kernel
theorem dL_isRigged_4 : decode cL_isRigged 4 = .ok (.iconst 1, 1) := by decide +kernel
theorem dL_isRigged_5 : decode cL_isRigged 5 = .ok (.iload_n 3, 1) := by decide +kernel
theorem dL_isRigged_6 : decode cL_isRigged 6 = .ok (.bipush 90, 2) := by decide +kernel
theorem dL_isRigged_8 : decode cL_isRigged 8 = .ok (.irem, 1) := by decide +kernel
theorem dL_isRigged_9 : decode cL_isRigged 9 = .ok (.iadd, 1) := by decide +kernel
theorem dL_isRigged_10 : decode cL_isRigged 10 = .ok (.istore 4, 2) := by decide +kernel
theorem dL_isRigged_12 : decode cL_isRigged 12 = .ok (.aload_n 1, 1) := by decide +kernel
theorem dL_isRigged_13 : decode cL_isRigged 13 = .ok (.iconst 5, 1) := by decide +kernel
theorem dL_isRigged_14 : decode cL_isRigged 14 = .ok (.dup2, 1) := by decide +kernel
theorem dL_isRigged_15 : decode cL_isRigged 15 = .ok (.iaload, 1) := by decide +kernel
theorem dL_isRigged_16 : decode cL_isRigged 16 = .ok (.iload 4, 2) := by decide +kernel
theorem dL_isRigged_18 : decode cL_isRigged 18 = .ok (.iadd, 1) := by decide +kernel
theorem dL_isRigged_19 : decode cL_isRigged 19 = .ok (.iastore, 1) := by decide +kernel
theorem dL_isRigged_20 : decode cL_isRigged 20 = .ok (.aload_n 0, 1) := by decide +kernel
theorem dL_isRigged_21 : decode cL_isRigged 21 = .ok (.bipush 17, 2) := by decide +kernel
theorem dL_isRigged_23 : decode cL_isRigged 23 = .ok (.iload 4, 2) := by decide +kernel
theorem dL_isRigged_25 : decode cL_isRigged 25 = .ok (.iconst 0, 1) := by decide +kernel
theorem dL_isRigged_26 : decode cL_isRigged 26 = .ok (.iconst 0, 1) := by decide +kernel
theorem dL_isRigged_27 : decode cL_isRigged 27 = .ok (.iconst 0, 1) := by decide +kernel
theorem dL_isRigged_28 : decode cL_isRigged 28 = .ok (.invokestatic 123, 3) := by decide +kernel
theorem dL_isRigged_31 : decode cL_isRigged 31 = .ok (.aload_n 1, 1) := by decide +kernel
theorem dL_isRigged_32 : decode cL_isRigged 32 = .ok (.iconst 5, 1) := by decide +kernel
theorem dL_isRigged_33 : decode cL_isRigged 33 = .ok (.iaload, 1) := by decide +kernel
theorem dL_isRigged_34 : decode cL_isRigged 34 = .ok (.i2l, 1) := by decide +kernel
theorem dL_isRigged_35 : decode cL_isRigged 35 = .ok (.lcmp, 1) := by decide +kernel
theorem dL_isRigged_36 : decode cL_isRigged 36 = .ok (.ifCond .ne 7, 3) := by decide +kernel
theorem dL_isRigged_39 : decode cL_isRigged 39 = .ok (.iconst 1, 1) := by decide +kernel
theorem dL_isRigged_40 : decode cL_isRigged 40 = .ok (.goto 4, 3) := by decide +kernel
theorem dL_isRigged_43 : decode cL_isRigged 43 = .ok (.iconst 0, 1) := by decide +kernel
theorem dL_isRigged_44 : decode cL_isRigged 44 = .ok (.ireturn, 1) := by decide +kernel
theorem dL_isRigged_45 : decode cL_isRigged 45 = .ok (.iload_n 3, 1) := by decide +kernel
theorem dL_isRigged_46 : decode cL_isRigged 46 = .ok (.aload_n 1, 1) := by decide +kernel
theorem dL_isRigged_47 : decode cL_isRigged 47 = .ok (.iconst 0, 1) := by decide +kernel
theorem dL_isRigged_48 : decode cL_isRigged 48 = .ok (.iaload, 1) := by decide +kernel
theorem dL_isRigged_49 : decode cL_isRigged 49 = .ok (.irem, 1) := by decide +kernel
theorem dL_isRigged_50 : decode cL_isRigged 50 = .ok (.istore 4, 2) := by decide +kernel
theorem dL_isRigged_52 : decode cL_isRigged 52 = .ok (.iload_n 2, 1) := by decide +kernel
theorem dL_isRigged_53 : decode cL_isRigged 53 = .ok (.iconst 1, 1) := by decide +kernel
theorem dL_isRigged_54 : decode cL_isRigged 54 = .ok (.if_icmp .eq 9, 3) := by decide +kernel
theorem dL_isRigged_57 : decode cL_isRigged 57 = .ok (.aload_n 1, 1) := by decide +kernel
theorem dL_isRigged_58 : decode cL_isRigged 58 = .ok (.iconst 4, 1) := by decide +kernel
theorem dL_isRigged_59 : decode cL_isRigged 59 = .ok (.iaload, 1) := by decide +kernel
theorem dL_isRigged_60 : decode cL_isRigged 60 = .ok (.ifCond .ne 106, 3) := by decide +kernel
theorem dL_isRigged_63 : decode cL_isRigged 63 = .ok (.aload_n 0, 1) := by decide +kernel
theorem dL_isRigged_64 : decode cL_isRigged 64 = .ok (.bipush 18, 2) := by decide +kernel
theorem dL_isRigged_66 : decode cL_isRigged 66 = .ok (.iload 4, 2) := by decide +kernel
theorem dL_isRigged_68 : decode cL_isRigged 68 = .ok (.iconst 0, 1) := by decide +kernel
theorem dL_isRigged_69 : decode cL_isRigged 69 = .ok (.iconst 0, 1) := by decide +kernel
theorem dL_isRigged_70 : decode cL_isRigged 70 = .ok (.iconst 0, 1) := by decide +kernel
theorem dL_isRigged_71 : decode cL_isRigged 71 = .ok (.invokestatic 123, 3) := by decide +kernel
theorem dL_isRigged_74 : decode cL_isRigged 74 = .ok (.lstore 5, 2) := by decide +kernel
theorem dL_isRigged_76 : decode cL_isRigged 76 = .ok (.lload 5, 2) := by decide +kernel
theorem dL_isRigged_78 : decode cL_isRigged 78 = .ok (.aload_n 1, 1) := by decide +kernel
theorem dL_isRigged_79 : decode cL_isRigged 79 = .ok (.iconst 4, 1) := by decide +kernel
theorem dL_isRigged_80 : decode cL_isRigged 80 = .ok (.iaload, 1) := by decide +kernel
theorem dL_isRigged_81 : decode cL_isRigged 81 = .ok (.bipush 6, 2) := by decide +kernel
theorem dL_isRigged_83 : decode cL_isRigged 83 = .ok (.if_icmp .ne 9, 3) := by decide +kernel
theorem dL_isRigged_86 : decode cL_isRigged 86 = .ok (.ldc2_w 113, 3) := by decide +kernel
theorem dL_isRigged_89 : decode cL_isRigged 89 = .ok (.goto 7, 3) := by decide +kernel
theorem dL_isRigged_92 : decode cL_isRigged 92 = .ok (.aload_n 1, 1) := by decide +kernel
theorem dL_isRigged_93 : decode cL_isRigged 93 = .ok (.iconst 4, 1) := by decide +kernel
theorem dL_isRigged_94 : decode cL_isRigged 94 = .ok (.iaload, 1) := by decide +kernel
theorem dL_isRigged_95 : decode cL_isRigged 95 = .ok (.i2l, 1) := by decide +kernel
theorem dL_isRigged_96 : decode cL_isRigged 96 = .ok (.lcmp, 1) := by decide +kernel
theorem dL_isRigged_97 : decode cL_isRigged 97 = .ok (.ifCond .ne 7, 3) := by decide +kernel
theorem dL_isRigged_100 : decode cL_isRigged 100 = .ok (.iconst 1, 1) := by decide +kernel
theorem dL_isRigged_101 : decode cL_isRigged 101 = .ok (.goto 4, 3) := by decide +kernel
theorem dL_isRigged_104 : decode cL_isRigged 104 = .ok (.iconst 0, 1) := by decide +kernel
theorem dL_isRigged_105 : decode cL_isRigged 105 = .ok (.istore 7, 2) := by decide +kernel
theorem dL_isRigged_107 : decode cL_isRigged 107 = .ok (.aload_n 1, 1) := by decide +kernel
theorem dL_isRigged_108 : decode cL_isRigged 108 = .ok (.iconst 4, 1) := by decide +kernel
theorem dL_isRigged_109 : decode cL_isRigged 109 = .ok (.dup2, 1) := by decide +kernel
theorem dL_isRigged_110 : decode cL_isRigged 110 = .ok (.iaload, 1) := by decide +kernel
theorem dL_isRigged_111 : decode cL_isRigged 111 = .ok (.lload 5, 2) := by decide +kernel
theorem dL_isRigged_113 : decode cL_isRigged 113 = .ok (.lconst 0, 1) := by decide +kernel
theorem dL_isRigged_114 : decode cL_isRigged 114 = .ok (.lcmp, 1) := by decide +kernel
theorem dL_isRigged_115 : decode cL_isRigged 115 = .ok (.ifCond .lt 7, 3) := by decide +kernel
theorem dL_isRigged_118 : decode cL_isRigged 118 = .ok (.iconst 1, 1) := by decide +kernel
theorem dL_isRigged_119 : decode cL_isRigged 119 = .ok (.goto 4, 3) := by decide +kernel
theorem dL_isRigged_122 : decode cL_isRigged 122 = .ok (.iconst 0, 1) := by decide +kernel
theorem dL_isRigged_123 : decode cL_isRigged 123 = .ok (.iadd, 1) := by decide +kernel
theorem dL_isRigged_124 : decode cL_isRigged 124 = .ok (.iastore, 1) := by decide +kernel
theorem dL_isRigged_125 : decode cL_isRigged 125 = .ok (.iload 7, 2) := by decide +kernel
theorem dL_isRigged_127 : decode cL_isRigged 127 = .ok (.ifCond .eq 37, 3) := by decide +kernel
theorem dL_isRigged_130 : decode cL_isRigged 130 = .ok (.lload 5, 2) := by decide +kernel
theorem dL_isRigged_132 : decode cL_isRigged 132 = .ok (.lconst 0, 1) := by decide +kernel
theorem dL_isRigged_133 : decode cL_isRigged 133 = .ok (.lcmp, 1) := by decide +kernel
theorem dL_isRigged_134 : decode cL_isRigged 134 = .ok (.ifCond .lt 26, 3) := by decide +kernel
theorem dL_isRigged_137 : decode cL_isRigged 137 = .ok (.aload_n 0, 1) := by decide +kernel
theorem dL_isRigged_138 : decode cL_isRigged 138 = .ok (.lload 5, 2) := by decide +kernel
theorem dL_isRigged_140 : decode cL_isRigged 140 = .ok (.l2i, 1) := by decide +kernel
theorem dL_isRigged_141 : decode cL_isRigged 141 = .ok (.invokevirtual 81, 3) := by decide +kernel
theorem dL_isRigged_144 : decode cL_isRigged 144 = .ok (.ifCond .ne 20, 3) := by decide +kernel
theorem dL_isRigged_147 : decode cL_isRigged 147 = .ok (.aload_n 0, 1) := by decide +kernel
theorem dL_isRigged_148 : decode cL_isRigged 148 = .ok (.lload 5, 2) := by decide +kernel
theorem dL_isRigged_150 : decode cL_isRigged 150 = .ok (.l2i, 1) := by decide +kernel
theorem dL_isRigged_151 : decode cL_isRigged 151 = .ok (.iconst 0, 1) := by decide +kernel
theorem dL_isRigged_152 : decode cL_isRigged 152 = .ok (.invokevirtual 97, 3) := by decide +kernel
theorem dL_isRigged_155 : decode cL_isRigged 155 = .ok (.iload 4, 2) := by decide +kernel
theorem dL_isRigged_157 : decode cL_isRigged 157 = .ok (.if_icmp .ne 7, 3) := by decide +kernel
theorem dL_isRigged_160 : decode cL_isRigged 160 = .ok (.iconst 1, 1) := by decide +kernel
theorem dL_isRigged_161 : decode cL_isRigged 161 = .ok (.goto 4, 3) := by decide +kernel
theorem dL_isRigged_164 : decode cL_isRigged 164 = .ok (.iconst 0, 1) := by decide +kernel
theorem dL_isRigged_165 : decode cL_isRigged 165 = .ok (.ireturn, 1) := by decide +kernel
theorem dL_isRigged_166 : decode cL_isRigged 166 = .ok (.iload_n 3, 1) := by decide +kernel
theorem dL_isRigged_167 : decode cL_isRigged 167 = .ok (.bipush 6, 2) := by decide +kernel
theorem dL_isRigged_169 : decode cL_isRigged 169 = .ok (.idiv, 1) := by decide +kernel
theorem dL_isRigged_170 : decode cL_isRigged 170 = .ok (.aload_n 1, 1) := by decide +kernel
theorem dL_isRigged_171 : decode cL_isRigged 171 = .ok (.iconst 4, 1) := by decide +kernel
theorem dL_isRigged_172 : decode cL_isRigged 172 = .ok (.iaload, 1) := by decide +kernel
theorem dL_isRigged_173 : decode cL_isRigged 173 = .ok (.irem, 1) := by decide +kernel
theorem dL_isRigged_174 : decode cL_isRigged 174 = .ok (.istore 5, 2) := by decide +kernel
theorem dL_isRigged_176 : decode cL_isRigged 176 = .ok (.iload_n 3, 1) := by decide +kernel
theorem dL_isRigged_177 : decode cL_isRigged 177 = .ok (.bipush 36, 2) := by decide +kernel
theorem dL_isRigged_179 : decode cL_isRigged 179 = .ok (.idiv, 1) := by decide +kernel
theorem dL_isRigged_180 : decode cL_isRigged 180 = .ok (.istore 6, 2) := by decide +kernel
theorem dL_isRigged_182 : decode cL_isRigged 182 = .ok (.aload_n 0, 1) := by decide +kernel
theorem dL_isRigged_183 : decode cL_isRigged 183 = .ok (.iload 5, 2) := by decide +kernel
theorem dL_isRigged_185 : decode cL_isRigged 185 = .ok (.iconst 1, 1) := by decide +kernel
theorem dL_isRigged_186 : decode cL_isRigged 186 = .ok (.invokevirtual 97, 3) := by decide +kernel
theorem dL_isRigged_189 : decode cL_isRigged 189 = .ok (.ifCond .lt 7, 3) := by decide +kernel
theorem dL_isRigged_192 : decode cL_isRigged 192 = .ok (.iconst 1, 1) := by decide +kernel
theorem dL_isRigged_193 : decode cL_isRigged 193 = .ok (.goto 4, 3) := by decide +kernel
theorem dL_isRigged_196 : decode cL_isRigged 196 = .ok (.iconst 0, 1) := by decide +kernel
theorem dL_isRigged_197 : decode cL_isRigged 197 = .ok (.istore 7, 2) := by decide +kernel
theorem dL_isRigged_199 : decode cL_isRigged 199 = .ok (.aload_n 0, 1) := by decide +kernel
theorem dL_isRigged_200 : decode cL_isRigged 200 = .ok (.iload 5, 2) := by decide +kernel
theorem dL_isRigged_202 : decode cL_isRigged 202 = .ok (.invokevirtual 81, 3) := by decide +kernel
theorem dL_isRigged_205 : decode cL_isRigged 205 = .ok (.istore 8, 2) := by decide +kernel
theorem dL_isRigged_207 : decode cL_isRigged 207 = .ok (.iload_n 2, 1) := by decide +kernel
theorem dL_isRigged_208 : decode cL_isRigged 208 = .ok (.iconst 5, 1) := by decide +kernel
theorem dL_isRigged_209 : decode cL_isRigged 209 = .ok (.if_icmp .ge 104, 3) := by decide +kernel
theorem dL_isRigged_212 : decode cL_isRigged 212 = .ok (.aload_n 0, 1) := by decide +kernel
