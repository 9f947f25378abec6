theorem dL_isRefused_0 : decode cL_isRefused 0 = .ok (.iload_n 2, 1) := by decide +kernel
theorem dL_isRefused_1 : decode cL_isRefused 1 = .ok (.iconst 2, 1) := by decide +kernel
theorem dL_isRefused_2 : decode cL_isRefused 2 = .ok (.irem, 1) := by decide +kernel
theorem dL_isRefused_3 : decode cL_isRefused 3 = .ok (.ifCond .ne 7, 3) := by decide +kernel
theorem dL_isRefused_6 : decode cL_isRefused 6 = .ok (.iconst 1, 1) := by decide +kernel
theorem dL_isRefused_7 : decode cL_isRefused 7 = .ok (.goto 4, 3) := by decide +kernel
theorem dL_isRefused_10 : decode cL_isRefused 10 = .ok (.iconst 0, 1) := by decide +kernel
theorem dL_isRefused_11 : decode cL_isRefused 11 = .ok (.istore_n 3, 1) := by decide +kernel
theorem dL_isRefused_12 : decode cL_isRefused 12 = .ok (.iload_n 3, 1) := by decide +kernel
theorem dL_isRefused_13 : decode cL_isRefused 13 = .ok (.ifCond .eq 12, 3) := by decide +kernel
theorem dL_isRefused_16 : decode cL_isRefused 16 = .ok (.iconst (-1), 1) := by decide +kernel
theorem dL_isRefused_17 : decode cL_isRefused 17 = .ok (.iload_n 2, 1) := by decide +kernel
theorem dL_isRefused_18 : decode cL_isRefused 18 = .ok (.bipush 30, 2) := by decide +kernel
theorem dL_isRefused_20 : decode cL_isRefused 20 = .ok (.irem, 1) := by decide +kernel
theorem dL_isRefused_21 : decode cL_isRefused 21 = .ok (.isub, 1) := by decide +kernel
theorem dL_isRefused_22 : decode cL_isRefused 22 = .ok (.goto 11, 3) := by decide +kernel
theorem dL_isRefused_25 : decode cL_isRefused 25 = .ok (.aload_n 1, 1) := by decide +kernel
theorem dL_isRefused_26 : decode cL_isRefused 26 = .ok (.iconst 0, 1) := by decide +kernel
theorem dL_isRefused_27 : decode cL_isRefused 27 = .ok (.iaload, 1) := by decide +kernel
theorem dL_isRefused_28 : decode cL_isRefused 28 = .ok (.iload_n 2, 1) := by decide +kernel
theorem dL_isRefused_29 : decode cL_isRefused 29 = .ok (.bipush 30, 2) := by decide +kernel
theorem dL_isRefused_31 : decode cL_isRefused 31 = .ok (.irem, 1) := by decide +kernel
theorem dL_isRefused_32 : decode cL_isRefused 32 = .ok (.iadd, 1) := by decide +kernel
theorem dL_isRefused_33 : decode cL_isRefused 33 = .ok (.istore 4, 2) := by decide +kernel
theorem dL_isRefused_35 : decode cL_isRefused 35 = .ok (.iload_n 3, 1) := by decide +kernel
theorem dL_isRefused_36 : decode cL_isRefused 36 = .ok (.ifCond .eq 12, 3) := by decide +kernel
theorem dL_isRefused_39 : decode cL_isRefused 39 = .ok (.iconst (-1), 1) := by decide +kernel
theorem dL_isRefused_40 : decode cL_isRefused 40 = .ok (.iload_n 2, 1) := by decide +kernel
theorem dL_isRefused_41 : decode cL_isRefused 41 = .ok (.bipush 30, 2) := by decide +kernel
theorem dL_isRefused_43 : decode cL_isRefused 43 = .ok (.irem, 1) := by decide +kernel
theorem dL_isRefused_44 : decode cL_isRefused 44 = .ok (.isub, 1) := by decide +kernel
theorem dL_isRefused_45 : decode cL_isRefused 45 = .ok (.goto 11, 3) := by decide +kernel
theorem dL_isRefused_48 : decode cL_isRefused 48 = .ok (.aload_n 1, 1) := by decide +kernel
theorem dL_isRefused_49 : decode cL_isRefused 49 = .ok (.iconst 1, 1) := by decide +kernel
theorem dL_isRefused_50 : decode cL_isRefused 50 = .ok (.iaload, 1) := by decide +kernel
theorem dL_isRefused_51 : decode cL_isRefused 51 = .ok (.iload_n 2, 1) := by decide +kernel
theorem dL_isRefused_52 : decode cL_isRefused 52 = .ok (.bipush 30, 2) := by decide +kernel
theorem dL_isRefused_54 : decode cL_isRefused 54 = .ok (.irem, 1) := by decide +kernel
theorem dL_isRefused_55 : decode cL_isRefused 55 = .ok (.iadd, 1) := by decide +kernel
theorem dL_isRefused_56 : decode cL_isRefused 56 = .ok (.istore 5, 2) := by decide +kernel
theorem dL_isRefused_58 : decode cL_isRefused 58 = .ok (.iload_n 3, 1) := by decide +kernel
theorem dL_isRefused_59 : decode cL_isRefused 59 = .ok (.ifCond .eq 12, 3) := by decide +kernel
theorem dL_isRefused_62 : decode cL_isRefused 62 = .ok (.iconst (-1), 1) := by decide +kernel
theorem dL_isRefused_63 : decode cL_isRefused 63 = .ok (.iload_n 2, 1) := by decide +kernel
theorem dL_isRefused_64 : decode cL_isRefused 64 = .ok (.bipush 30, 2) := by decide +kernel
theorem dL_isRefused_66 : decode cL_isRefused 66 = .ok (.irem, 1) := by decide +kernel
theorem dL_isRefused_67 : decode cL_isRefused 67 = .ok (.isub, 1) := by decide +kernel
theorem dL_isRefused_68 : decode cL_isRefused 68 = .ok (.goto 11, 3) := by decide +kernel
theorem dL_isRefused_71 : decode cL_isRefused 71 = .ok (.aload_n 1, 1) := by decide +kernel
theorem dL_isRefused_72 : decode cL_isRefused 72 = .ok (.iconst 4, 1) := by decide +kernel
theorem dL_isRefused_73 : decode cL_isRefused 73 = .ok (.iaload, 1) := by decide +kernel
theorem dL_isRefused_74 : decode cL_isRefused 74 = .ok (.iload_n 2, 1) := by decide +kernel
theorem dL_isRefused_75 : decode cL_isRefused 75 = .ok (.bipush 30, 2) := by decide +kernel
theorem dL_isRefused_77 : decode cL_isRefused 77 = .ok (.irem, 1) := by decide +kernel
theorem dL_isRefused_78 : decode cL_isRefused 78 = .ok (.iadd, 1) := by decide +kernel
theorem dL_isRefused_79 : decode cL_isRefused 79 = .ok (.istore 6, 2) := by decide +kernel
theorem dL_isRefused_81 : decode cL_isRefused 81 = .ok (.iload_n 3, 1) := by decide +kernel
theorem dL_isRefused_82 : decode cL_isRefused 82 = .ok (.ifCond .eq 12, 3) := by decide +kernel
theorem dL_isRefused_85 : decode cL_isRefused 85 = .ok (.iconst 0, 1) := by decide +kernel
theorem dL_isRefused_86 : decode cL_isRefused 86 = .ok (.iload_n 2, 1) := by decide +kernel
theorem dL_isRefused_87 : decode cL_isRefused 87 = .ok (.bipush 30, 2) := by decide +kernel
theorem dL_isRefused_89 : decode cL_isRefused 89 = .ok (.irem, 1) := by decide +kernel
theorem dL_isRefused_90 : decode cL_isRefused 90 = .ok (.isub, 1) := by decide +kernel
theorem dL_isRefused_91 : decode cL_isRefused 91 = .ok (.goto 10, 3) := by decide +kernel
theorem dL_isRefused_94 : decode cL_isRefused 94 = .ok (.ldc 137, 2) := by decide +kernel
theorem dL_isRefused_96 : decode cL_isRefused 96 = .ok (.iload_n 2, 1) := by decide +kernel
theorem dL_isRefused_97 : decode cL_isRefused 97 = .ok (.bipush 30, 2) := by decide +kernel
theorem dL_isRefused_99 : decode cL_isRefused 99 = .ok (.irem, 1) := by decide +kernel
theorem dL_isRefused_100 : decode cL_isRefused 100 = .ok (.iadd, 1) := by decide +kernel
theorem dL_isRefused_101 : decode cL_isRefused 101 = .ok (.istore 7, 2) := by decide +kernel
theorem dL_isRefused_103 : decode cL_isRefused 103 = .ok (.iload_n 3, 1) := by decide +kernel
theorem dL_isRefused_104 : decode cL_isRefused 104 = .ok (.ifCond .eq 12, 3) := by decide +kernel
theorem dL_isRefused_107 : decode cL_isRefused 107 = .ok (.iconst (-1), 1) := by decide +kernel
theorem dL_isRefused_108 : decode cL_isRefused 108 = .ok (.iload_n 2, 1) := by decide +kernel
theorem dL_isRefused_109 : decode cL_isRefused 109 = .ok (.bipush 30, 2) := by decide +kernel
theorem dL_isRefused_111 : decode cL_isRefused 111 = .ok (.irem, 1) := by decide +kernel
theorem dL_isRefused_112 : decode cL_isRefused 112 = .ok (.isub, 1) := by decide +kernel
theorem dL_isRefused_113 : decode cL_isRefused 113 = .ok (.goto 10, 3) := by decide +kernel
theorem dL_isRefused_116 : decode cL_isRefused 116 = .ok (.bipush 101, 2) := by decide +kernel
theorem dL_isRefused_118 : decode cL_isRefused 118 = .ok (.iload_n 2, 1) := by decide +kernel
theorem dL_isRefused_119 : decode cL_isRefused 119 = .ok (.bipush 30, 2) := by decide +kernel
theorem dL_isRefused_121 : decode cL_isRefused 121 = .ok (.irem, 1) := by decide +kernel
theorem dL_isRefused_122 : decode cL_isRefused 122 = .ok (.iadd, 1) := by decide +kernel
theorem dL_isRefused_123 : decode cL_isRefused 123 = .ok (.istore 8, 2) := by decide +kernel
theorem dL_isRefused_125 : decode cL_isRefused 125 = .ok (.iload_n 3, 1) := by decide +kernel
theorem dL_isRefused_126 : decode cL_isRefused 126 = .ok (.ifCond .eq 12, 3) := by decide +kernel
theorem dL_isRefused_129 : decode cL_isRefused 129 = .ok (.iconst (-1), 1) := by decide +kernel
theorem dL_isRefused_130 : decode cL_isRefused 130 = .ok (.iload_n 2, 1) := by decide +kernel
theorem dL_isRefused_131 : decode cL_isRefused 131 = .ok (.bipush 30, 2) := by decide +kernel
theorem dL_isRefused_133 : decode cL_isRefused 133 = .ok (.irem, 1) := by decide +kernel
theorem dL_isRefused_134 : decode cL_isRefused 134 = .ok (.isub, 1) := by decide +kernel
theorem dL_isRefused_135 : decode cL_isRefused 135 = .ok (.goto 10, 3) := by decide +kernel
theorem dL_isRefused_138 : decode cL_isRefused 138 = .ok (.bipush 36, 2) := by decide +kernel
theorem dL_isRefused_140 : decode cL_isRefused 140 = .ok (.iload_n 2, 1) := by decide +kernel
theorem dL_isRefused_141 : decode cL_isRefused 141 = .ok (.bipush 30, 2) := by decide +kernel
theorem dL_isRefused_143 : decode cL_isRefused 143 = .ok (.irem, 1) := by decide +kernel
theorem dL_isRefused_144 : decode cL_isRefused 144 = .ok (.iadd, 1) := by decide +kernel
theorem dL_isRefused_145 : decode cL_isRefused 145 = .ok (.istore 9, 2) := by decide +kernel
theorem dL_isRefused_147 : decode cL_isRefused 147 = .ok (.aload_n 0, 1) := by decide +kernel
theorem dL_isRefused_148 : decode cL_isRefused 148 = .ok (.aload_n 1, 1) := by decide +kernel
theorem dL_isRefused_149 : decode cL_isRefused 149 = .ok (.invokestatic 138, 3) := by decide +kernel
theorem dL_isRefused_152 : decode cL_isRefused 152 = .ok (.lstore 10, 2) := by decide +kernel
theorem dL_isRefused_154 : decode cL_isRefused 154 = .ok (.aload_n 0, 1) := by decide +kernel
theorem dL_isRefused_155 : decode cL_isRefused 155 = .ok (.iconst 0, 1) := by decide +kernel
theorem dL_isRefused_156 : decode cL_isRefused 156 = .ok (.iload 7, 2) := by decide +kernel
theorem dL_isRefused_158 : decode cL_isRefused 158 = .ok (.iconst 5, 1) := by decide +kernel
theorem dL_isRefused_159 : decode cL_isRefused 159 = .ok (.iconst 5, 1) := by decide +kernel
theorem dL_isRefused_160 : decode cL_isRefused 160 = .ok (.iconst 0, 1) := by decide +kernel
theorem dL_isRefused_161 : decode cL_isRefused 161 = .ok (.invokestatic 142, 3) := by decide +kernel
theorem dL_isRefused_164 : decode cL_isRefused 164 = .ok (.ifCond .eq 677, 3) := by decide +kernel
theorem dL_isRefused_167 : decode cL_isRefused 167 = .ok (.aload_n 0, 1) := by decide +kernel
theorem dL_isRefused_168 : decode cL_isRefused 168 = .ok (.iconst 0, 1) := by decide +kernel
theorem dL_isRefused_169 : decode cL_isRefused 169 = .ok (.iconst 5, 1) := by decide +kernel
theorem dL_isRefused_170 : decode cL_isRefused 170 = .ok (.iload 7, 2) := by decide +kernel
theorem dL_isRefused_172 : decode cL_isRefused 172 = .ok (.iconst 5, 1) := by decide +kernel
theorem dL_isRefused_173 : decode cL_isRefused 173 = .ok (.iconst 0, 1) := by decide +kernel
theorem dL_isRefused_174 : decode cL_isRefused 174 = .ok (.invokestatic 142, 3) := by decide +kernel
theorem dL_isRefused_177 : decode cL_isRefused 177 = .ok (.ifCond .eq 664, 3) := by decide +kernel
theorem dL_isRefused_180 : decode cL_isRefused 180 = .ok (.aload_n 0, 1) := by decide +kernel
theorem dL_isRefused_181 : decode cL_isRefused 181 = .ok (.iconst 0, 1) := by decide +kernel
theorem dL_isRefused_182 : decode cL_isRefused 182 = .ok (.iconst 5, 1) := by decide +kernel
theorem dL_isRefused_183 : decode cL_isRefused 183 = .ok (.iconst 5, 1) := by decide +kernel
theorem dL_isRefused_184 : decode cL_isRefused 184 = .ok (.iload 7, 2) := by decide +kernel
theorem dL_isRefused_186 : decode cL_isRefused 186 = .ok (.iconst 0, 1) := by decide +kernel
theorem dL_isRefused_187 : decode cL_isRefused 187 = .ok (.invokestatic 142, 3) := by decide +kernel
theorem dL_isRefused_190 : decode cL_isRefused 190 = .ok (.ifCond .eq 651, 3) := by decide +kernel
theorem dL_isRefused_193 : decode cL_isRefused 193 = .ok (.aload_n 0, 1) := by decide +kernel
theorem dL_isRefused_194 : decode cL_isRefused 194 = .ok (.iconst 1, 1) := by decide +kernel
theorem dL_isRefused_195 : decode cL_isRefused 195 = .ok (.iload 4, 2) := by decide +kernel
theorem dL_isRefused_197 : decode cL_isRefused 197 = .ok (.iconst 0, 1) := by decide +kernel
theorem dL_isRefused_198 : decode cL_isRefused 198 = .ok (.iconst 0, 1) := by decide +kernel
theorem dL_isRefused_199 : decode cL_isRefused 199 = .ok (.iconst 0, 1) := by decide +kernel
theorem dL_isRefused_200 : decode cL_isRefused 200 = .ok (.invokestatic 146, 3) := by decide +kernel
theorem dL_isRefused_203 : decode cL_isRefused 203 = .ok (.ifCond .eq 638, 3) := by decide +kernel
theorem dL_isRefused_206 : decode cL_isRefused 206 = .ok (.aload_n 0, 1) := by decide +kernel
theorem dL_isRefused_207 : decode cL_isRefused 207 = .ok (.iconst 2, 1) := by decide +kernel
theorem dL_isRefused_208 : decode cL_isRefused 208 = .ok (.iload 4, 2) := by decide +kernel
theorem dL_isRefused_210 : decode cL_isRefused 210 = .ok (.iconst 0, 1) := by decide +kernel
theorem dL_isRefused_211 : decode cL_isRefused 211 = .ok (.iconst 0, 1) := by decide +kernel
