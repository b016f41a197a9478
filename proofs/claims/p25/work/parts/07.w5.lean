theorem dL_ticks_145 : decode cL_ticks 145 = .ok (.iload 8, 2) := by decide +kernel
theorem dL_ticks_147 : decode cL_ticks 147 = .ok (.iadd, 1) := by decide +kernel
theorem dL_ticks_148 : decode cL_ticks 148 = .ok (.invokevirtual 93, 3) := by decide +kernel
theorem dL_ticks_151 : decode cL_ticks 151 = .ok (.aload_n 2, 1) := by decide +kernel
theorem dL_ticks_152 : decode cL_ticks 152 = .ok (.aload_n 3, 1) := by decide +kernel
theorem dL_ticks_153 : decode cL_ticks 153 = .ok (.iconst 5, 1) := by decide +kernel
theorem dL_ticks_154 : decode cL_ticks 154 = .ok (.iaload, 1) := by decide +kernel
theorem dL_ticks_155 : decode cL_ticks 155 = .ok (.iload 8, 2) := by decide +kernel
theorem dL_ticks_157 : decode cL_ticks 157 = .ok (.iadd, 1) := by decide +kernel
theorem dL_ticks_158 : decode cL_ticks 158 = .ok (.iaload, 1) := by decide +kernel
theorem dL_ticks_159 : decode cL_ticks 159 = .ok (.ifCond .lt 23, 3) := by decide +kernel
theorem dL_ticks_162 : decode cL_ticks 162 = .ok (.aload_n 3, 1) := by decide +kernel
theorem dL_ticks_163 : decode cL_ticks 163 = .ok (.aload_n 2, 1) := by decide +kernel
theorem dL_ticks_164 : decode cL_ticks 164 = .ok (.aload_n 3, 1) := by decide +kernel
theorem dL_ticks_165 : decode cL_ticks 165 = .ok (.iconst 5, 1) := by decide +kernel
theorem dL_ticks_166 : decode cL_ticks 166 = .ok (.iaload, 1) := by decide +kernel
theorem dL_ticks_167 : decode cL_ticks 167 = .ok (.iload 8, 2) := by decide +kernel
theorem dL_ticks_169 : decode cL_ticks 169 = .ok (.iadd, 1) := by decide +kernel
theorem dL_ticks_170 : decode cL_ticks 170 = .ok (.iaload, 1) := by decide +kernel
theorem dL_ticks_171 : decode cL_ticks 171 = .ok (.iconst 0, 1) := by decide +kernel
theorem dL_ticks_172 : decode cL_ticks 172 = .ok (.invokestatic 70, 3) := by decide +kernel
theorem dL_ticks_175 : decode cL_ticks 175 = .ok (.ifCond .ge 7, 3) := by decide +kernel
theorem dL_ticks_178 : decode cL_ticks 178 = .ok (.iconst 1, 1) := by decide +kernel
theorem dL_ticks_179 : decode cL_ticks 179 = .ok (.goto 4, 3) := by decide +kernel
theorem dL_ticks_182 : decode cL_ticks 182 = .ok (.iconst 0, 1) := by decide +kernel
theorem dL_ticks_183 : decode cL_ticks 183 = .ok (.if_icmp .ne 7, 3) := by decide +kernel
theorem dL_ticks_186 : decode cL_ticks 186 = .ok (.iconst 1, 1) := by decide +kernel
theorem dL_ticks_187 : decode cL_ticks 187 = .ok (.goto 4, 3) := by decide +kernel
theorem dL_ticks_190 : decode cL_ticks 190 = .ok (.iconst 0, 1) := by decide +kernel
theorem dL_ticks_191 : decode cL_ticks 191 = .ok (.istore 7, 2) := by decide +kernel
theorem dL_ticks_193 : decode cL_ticks 193 = .ok (.iinc 8 1, 3) := by decide +kernel
theorem dL_ticks_196 : decode cL_ticks 196 = .ok (.goto (-90), 3) := by decide +kernel
theorem dL_ticks_199 : decode cL_ticks 199 = .ok (.aload_n 3, 1) := by decide +kernel
theorem dL_ticks_200 : decode cL_ticks 200 = .ok (.bipush 6, 2) := by decide +kernel
theorem dL_ticks_202 : decode cL_ticks 202 = .ok (.dup2, 1) := by decide +kernel
theorem dL_ticks_203 : decode cL_ticks 203 = .ok (.iaload, 1) := by decide +kernel
theorem dL_ticks_204 : decode cL_ticks 204 = .ok (.aload_n 3, 1) := by decide +kernel
theorem dL_ticks_205 : decode cL_ticks 205 = .ok (.iconst 5, 1) := by decide +kernel
theorem dL_ticks_206 : decode cL_ticks 206 = .ok (.iaload, 1) := by decide +kernel
theorem dL_ticks_207 : decode cL_ticks 207 = .ok (.bipush 40, 2) := by decide +kernel
theorem dL_ticks_209 : decode cL_ticks 209 = .ok (.if_icmp .ge 7, 3) := by decide +kernel
theorem dL_ticks_212 : decode cL_ticks 212 = .ok (.iconst 0, 1) := by decide +kernel
theorem dL_ticks_213 : decode cL_ticks 213 = .ok (.goto 5, 3) := by decide +kernel
theorem dL_ticks_216 : decode cL_ticks 216 = .ok (.iload 6, 2) := by decide +kernel
theorem dL_ticks_218 : decode cL_ticks 218 = .ok (.isub, 1) := by decide +kernel
theorem dL_ticks_219 : decode cL_ticks 219 = .ok (.iastore, 1) := by decide +kernel
theorem dL_ticks_220 : decode cL_ticks 220 = .ok (.aload_n 3, 1) := by decide +kernel
theorem dL_ticks_221 : decode cL_ticks 221 = .ok (.iconst 5, 1) := by decide +kernel
theorem dL_ticks_222 : decode cL_ticks 222 = .ok (.dup2, 1) := by decide +kernel
theorem dL_ticks_223 : decode cL_ticks 223 = .ok (.iaload, 1) := by decide +kernel
theorem dL_ticks_224 : decode cL_ticks 224 = .ok (.aload_n 3, 1) := by decide +kernel
theorem dL_ticks_225 : decode cL_ticks 225 = .ok (.iconst 5, 1) := by decide +kernel
theorem dL_ticks_226 : decode cL_ticks 226 = .ok (.iaload, 1) := by decide +kernel
theorem dL_ticks_227 : decode cL_ticks 227 = .ok (.bipush 40, 2) := by decide +kernel
theorem dL_ticks_229 : decode cL_ticks 229 = .ok (.if_icmp .ge 8, 3) := by decide +kernel
theorem dL_ticks_232 : decode cL_ticks 232 = .ok (.iload 6, 2) := by decide +kernel
theorem dL_ticks_234 : decode cL_ticks 234 = .ok (.goto 4, 3) := by decide +kernel
theorem dL_ticks_237 : decode cL_ticks 237 = .ok (.iconst 0, 1) := by decide +kernel
theorem dL_ticks_238 : decode cL_ticks 238 = .ok (.iadd, 1) := by decide +kernel
theorem dL_ticks_239 : decode cL_ticks 239 = .ok (.iastore, 1) := by decide +kernel
theorem dL_ticks_240 : decode cL_ticks 240 = .ok (.iload 7, 2) := by decide +kernel
theorem dL_ticks_242 : decode cL_ticks 242 = .ok (.ifCond .eq 29, 3) := by decide +kernel
theorem dL_ticks_245 : decode cL_ticks 245 = .ok (.aload_n 3, 1) := by decide +kernel
theorem dL_ticks_246 : decode cL_ticks 246 = .ok (.iconst 5, 1) := by decide +kernel
theorem dL_ticks_247 : decode cL_ticks 247 = .ok (.iaload, 1) := by decide +kernel
theorem dL_ticks_248 : decode cL_ticks 248 = .ok (.bipush 40, 2) := by decide +kernel
theorem dL_ticks_250 : decode cL_ticks 250 = .ok (.if_icmp .lt 17, 3) := by decide +kernel
theorem dL_ticks_253 : decode cL_ticks 253 = .ok (.aload_n 3, 1) := by decide +kernel
theorem dL_ticks_254 : decode cL_ticks 254 = .ok (.bipush 6, 2) := by decide +kernel
theorem dL_ticks_256 : decode cL_ticks 256 = .ok (.iaload, 1) := by decide +kernel
theorem dL_ticks_257 : decode cL_ticks 257 = .ok (.ifCond .gt 10, 3) := by decide +kernel
theorem dL_ticks_260 : decode cL_ticks 260 = .ok (.aload_n 0, 1) := by decide +kernel
theorem dL_ticks_261 : decode cL_ticks 261 = .ok (.invokevirtual 109, 3) := by decide +kernel
theorem dL_ticks_264 : decode cL_ticks 264 = .ok (.ifCond .ne 7, 3) := by decide +kernel
theorem dL_ticks_267 : decode cL_ticks 267 = .ok (.iconst 1, 1) := by decide +kernel
theorem dL_ticks_268 : decode cL_ticks 268 = .ok (.goto 4, 3) := by decide +kernel
theorem dL_ticks_271 : decode cL_ticks 271 = .ok (.iconst 0, 1) := by decide +kernel
theorem dL_ticks_272 : decode cL_ticks 272 = .ok (.ireturn, 1) := by decide +kernel
theorem dL_changes_0 : decode cL_changes 0 = .ok (.aload_n 0, 1) := by decide +kernel
theorem dL_changes_1 : decode cL_changes 1 = .ok (.invokevirtual 106, 3) := by decide +kernel
theorem dL_changes_4 : decode cL_changes 4 = .ok (.istore 6, 2) := by decide +kernel
theorem dL_changes_6 : decode cL_changes 6 = .ok (.iconst 0, 1) := by decide +kernel
theorem dL_changes_7 : decode cL_changes 7 = .ok (.istore 7, 2) := by decide +kernel
theorem dL_changes_9 : decode cL_changes 9 = .ok (.iconst 0, 1) := by decide +kernel
theorem dL_changes_10 : decode cL_changes 10 = .ok (.istore 8, 2) := by decide +kernel
theorem dL_changes_12 : decode cL_changes 12 = .ok (.iload 8, 2) := by decide +kernel
theorem dL_changes_14 : decode cL_changes 14 = .ok (.bipush 40, 2) := by decide +kernel
theorem dL_changes_16 : decode cL_changes 16 = .ok (.if_icmp .ge 40, 3) := by decide +kernel
theorem dL_changes_19 : decode cL_changes 19 = .ok (.iload 7, 2) := by decide +kernel
theorem dL_changes_21 : decode cL_changes 21 = .ok (.aload 4, 2) := by decide +kernel
theorem dL_changes_23 : decode cL_changes 23 = .ok (.iload 8, 2) := by decide +kernel
theorem dL_changes_25 : decode cL_changes 25 = .ok (.iaload, 1) := by decide +kernel
theorem dL_changes_26 : decode cL_changes 26 = .ok (.ifCond .lt 20, 3) := by decide +kernel
theorem dL_changes_29 : decode cL_changes 29 = .ok (.aload_n 0, 1) := by decide +kernel
theorem dL_changes_30 : decode cL_changes 30 = .ok (.aload 4, 2) := by decide +kernel
theorem dL_changes_32 : decode cL_changes 32 = .ok (.aload 5, 2) := by decide +kernel
theorem dL_changes_34 : decode cL_changes 34 = .ok (.iload 8, 2) := by decide +kernel
theorem dL_changes_36 : decode cL_changes 36 = .ok (.invokestatic 83, 3) := by decide +kernel
theorem dL_changes_39 : decode cL_changes 39 = .ok (.ifCond .ne 7, 3) := by decide +kernel
theorem dL_changes_42 : decode cL_changes 42 = .ok (.iconst 1, 1) := by decide +kernel
theorem dL_changes_43 : decode cL_changes 43 = .ok (.goto 4, 3) := by decide +kernel
theorem dL_changes_46 : decode cL_changes 46 = .ok (.iconst 0, 1) := by decide +kernel
theorem dL_changes_47 : decode cL_changes 47 = .ok (.iadd, 1) := by decide +kernel
theorem dL_changes_48 : decode cL_changes 48 = .ok (.istore 7, 2) := by decide +kernel
theorem dL_changes_50 : decode cL_changes 50 = .ok (.iinc 8 1, 3) := by decide +kernel
theorem dL_changes_53 : decode cL_changes 53 = .ok (.goto (-41), 3) := by decide +kernel
theorem dL_changes_56 : decode cL_changes 56 = .ok (.iload_n 1, 1) := by decide +kernel
theorem dL_changes_57 : decode cL_changes 57 = .ok (.iconst 5, 1) := by decide +kernel
theorem dL_changes_58 : decode cL_changes 58 = .ok (.if_icmp .ne 142, 3) := by decide +kernel
theorem dL_changes_61 : decode cL_changes 61 = .ok (.iload_n 2, 1) := by decide +kernel
theorem dL_changes_62 : decode cL_changes 62 = .ok (.iconst 3, 1) := by decide +kernel
theorem dL_changes_63 : decode cL_changes 63 = .ok (.irem, 1) := by decide +kernel
theorem dL_changes_64 : decode cL_changes 64 = .ok (.ifCond .ne 9, 3) := by decide +kernel
theorem dL_changes_67 : decode cL_changes 67 = .ok (.iload_n 3, 1) := by decide +kernel
theorem dL_changes_68 : decode cL_changes 68 = .ok (.iconst 4, 1) := by decide +kernel
theorem dL_changes_69 : decode cL_changes 69 = .ok (.irem, 1) := by decide +kernel
theorem dL_changes_70 : decode cL_changes 70 = .ok (.goto 8, 3) := by decide +kernel
theorem dL_changes_73 : decode cL_changes 73 = .ok (.iload_n 3, 1) := by decide +kernel
theorem dL_changes_74 : decode cL_changes 74 = .ok (.sipush 1001, 3) := by decide +kernel
theorem dL_changes_77 : decode cL_changes 77 = .ok (.irem, 1) := by decide +kernel
theorem dL_changes_78 : decode cL_changes 78 = .ok (.istore 8, 2) := by decide +kernel
theorem dL_changes_80 : decode cL_changes 80 = .ok (.aload_n 0, 1) := by decide +kernel
theorem dL_changes_81 : decode cL_changes 81 = .ok (.iconst 5, 1) := by decide +kernel
theorem dL_changes_82 : decode cL_changes 82 = .ok (.iload 8, 2) := by decide +kernel
theorem dL_changes_84 : decode cL_changes 84 = .ok (.iconst 0, 1) := by decide +kernel
theorem dL_changes_85 : decode cL_changes 85 = .ok (.iconst 0, 1) := by decide +kernel
theorem dL_changes_86 : decode cL_changes 86 = .ok (.invokestatic 112, 3) := by decide +kernel
theorem dL_changes_89 : decode cL_changes 89 = .ok (.istore 9, 2) := by decide +kernel
theorem dL_changes_91 : decode cL_changes 91 = .ok (.aload 5, 2) := by decide +kernel
theorem dL_changes_93 : decode cL_changes 93 = .ok (.iconst 0, 1) := by decide +kernel
theorem dL_changes_94 : decode cL_changes 94 = .ok (.iaload, 1) := by decide +kernel
theorem dL_changes_95 : decode cL_changes 95 = .ok (.iconst 1, 1) := by decide +kernel
theorem dL_changes_96 : decode cL_changes 96 = .ok (.if_icmp .ne 26, 3) := by decide +kernel
theorem dL_changes_99 : decode cL_changes 99 = .ok (.aload 5, 2) := by decide +kernel
theorem dL_changes_101 : decode cL_changes 101 = .ok (.iconst 5, 1) := by decide +kernel
theorem dL_changes_102 : decode cL_changes 102 = .ok (.iaload, 1) := by decide +kernel
theorem dL_changes_103 : decode cL_changes 103 = .ok (.bipush 40, 2) := by decide +kernel
theorem dL_changes_105 : decode cL_changes 105 = .ok (.if_icmp .ne 17, 3) := by decide +kernel
theorem dL_changes_108 : decode cL_changes 108 = .ok (.aload 5, 2) := by decide +kernel
theorem dL_changes_110 : decode cL_changes 110 = .ok (.bipush 6, 2) := by decide +kernel
theorem dL_changes_112 : decode cL_changes 112 = .ok (.iaload, 1) := by decide +kernel
theorem dL_changes_113 : decode cL_changes 113 = .ok (.iload 8, 2) := by decide +kernel
theorem dL_changes_115 : decode cL_changes 115 = .ok (.if_icmp .gt 7, 3) := by decide +kernel
theorem dL_changes_118 : decode cL_changes 118 = .ok (.iconst 1, 1) := by decide +kernel
theorem dL_changes_119 : decode cL_changes 119 = .ok (.goto 4, 3) := by decide +kernel
theorem dL_changes_122 : decode cL_changes 122 = .ok (.iconst 0, 1) := by decide +kernel
theorem dL_changes_123 : decode cL_changes 123 = .ok (.istore 10, 2) := by decide +kernel
theorem dL_changes_125 : decode cL_changes 125 = .ok (.aload 5, 2) := by decide +kernel
theorem dL_changes_127 : decode cL_changes 127 = .ok (.bipush 6, 2) := by decide +kernel
theorem dL_changes_129 : decode cL_changes 129 = .ok (.iaload, 1) := by decide +kernel
theorem dL_changes_130 : decode cL_changes 130 = .ok (.istore 11, 2) := by decide +kernel
theorem dL_changes_132 : decode cL_changes 132 = .ok (.aload 5, 2) := by decide +kernel
theorem dL_changes_134 : decode cL_changes 134 = .ok (.iconst 0, 1) := by decide +kernel
theorem dL_changes_135 : decode cL_changes 135 = .ok (.iload 10, 2) := by decide +kernel
theorem dL_changes_137 : decode cL_changes 137 = .ok (.ifCond .eq 7, 3) := by decide +kernel
theorem dL_changes_140 : decode cL_changes 140 = .ok (.iconst 2, 1) := by decide +kernel
theorem dL_changes_141 : decode cL_changes 141 = .ok (.goto 7, 3) := by decide +kernel
theorem dL_changes_144 : decode cL_changes 144 = .ok (.aload 5, 2) := by decide +kernel
theorem dL_changes_146 : decode cL_changes 146 = .ok (.iconst 0, 1) := by decide +kernel
theorem dL_changes_147 : decode cL_changes 147 = .ok (.iaload, 1) := by decide +kernel
theorem dL_changes_148 : decode cL_changes 148 = .ok (.iastore, 1) := by decide +kernel
theorem dL_changes_149 : decode cL_changes 149 = .ok (.aload 5, 2) := by decide +kernel
theorem dL_changes_151 : decode cL_changes 151 = .ok (.bipush 6, 2) := by decide +kernel
theorem dL_changes_153 : decode cL_changes 153 = .ok (.iload 10, 2) := by decide +kernel
theorem dL_changes_155 : decode cL_changes 155 = .ok (.ifCond .eq 7, 3) := by decide +kernel
theorem dL_changes_158 : decode cL_changes 158 = .ok (.iconst 0, 1) := by decide +kernel
theorem dL_changes_159 : decode cL_changes 159 = .ok (.goto 5, 3) := by decide +kernel
theorem dL_changes_162 : decode cL_changes 162 = .ok (.iload 11, 2) := by decide +kernel
theorem dL_changes_164 : decode cL_changes 164 = .ok (.iastore, 1) := by decide +kernel
theorem dL_changes_165 : decode cL_changes 165 = .ok (.iload 9, 2) := by decide +kernel
