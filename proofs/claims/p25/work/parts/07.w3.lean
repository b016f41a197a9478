theorem dL_client_0 : decode cL_client 0 = .ok (.aload_n 0, 1) := by decide +kernel
theorem dL_client_1 : decode cL_client 1 = .ok (.aload 5, 2) := by decide +kernel
theorem dL_client_3 : decode cL_client 3 = .ok (.aload 6, 2) := by decide +kernel
theorem dL_client_5 : decode cL_client 5 = .ok (.iload_n 2, 1) := by decide +kernel
theorem dL_client_6 : decode cL_client 6 = .ok (.invokestatic 83, 3) := by decide +kernel
theorem dL_client_9 : decode cL_client 9 = .ok (.istore 7, 2) := by decide +kernel
theorem dL_client_11 : decode cL_client 11 = .ok (.aload 6, 2) := by decide +kernel
theorem dL_client_13 : decode cL_client 13 = .ok (.iconst 0, 1) := by decide +kernel
theorem dL_client_14 : decode cL_client 14 = .ok (.iaload, 1) := by decide +kernel
theorem dL_client_15 : decode cL_client 15 = .ok (.iconst 2, 1) := by decide +kernel
theorem dL_client_16 : decode cL_client 16 = .ok (.if_icmp .ne 20, 3) := by decide +kernel
theorem dL_client_19 : decode cL_client 19 = .ok (.aload 6, 2) := by decide +kernel
theorem dL_client_21 : decode cL_client 21 = .ok (.sipush 1000, 3) := by decide +kernel
theorem dL_client_24 : decode cL_client 24 = .ok (.iload_n 3, 1) := by decide +kernel
theorem dL_client_25 : decode cL_client 25 = .ok (.imul, 1) := by decide +kernel
theorem dL_client_26 : decode cL_client 26 = .ok (.iload 4, 2) := by decide +kernel
theorem dL_client_28 : decode cL_client 28 = .ok (.iadd, 1) := by decide +kernel
theorem dL_client_29 : decode cL_client 29 = .ok (.iconst 0, 1) := by decide +kernel
theorem dL_client_30 : decode cL_client 30 = .ok (.invokestatic 70, 3) := by decide +kernel
theorem dL_client_33 : decode cL_client 33 = .ok (.ifCond .lt 7, 3) := by decide +kernel
theorem dL_client_36 : decode cL_client 36 = .ok (.iconst 1, 1) := by decide +kernel
theorem dL_client_37 : decode cL_client 37 = .ok (.goto 4, 3) := by decide +kernel
theorem dL_client_40 : decode cL_client 40 = .ok (.iconst 0, 1) := by decide +kernel
theorem dL_client_41 : decode cL_client 41 = .ok (.istore 8, 2) := by decide +kernel
theorem dL_client_43 : decode cL_client 43 = .ok (.aload_n 0, 1) := by decide +kernel
theorem dL_client_44 : decode cL_client 44 = .ok (.invokevirtual 106, 3) := by decide +kernel
theorem dL_client_47 : decode cL_client 47 = .ok (.istore 9, 2) := by decide +kernel
theorem dL_client_49 : decode cL_client 49 = .ok (.aload_n 0, 1) := by decide +kernel
theorem dL_client_50 : decode cL_client 50 = .ok (.invokevirtual 109, 3) := by decide +kernel
theorem dL_client_53 : decode cL_client 53 = .ok (.istore 10, 2) := by decide +kernel
theorem dL_client_55 : decode cL_client 55 = .ok (.iload_n 1, 1) := by decide +kernel
theorem dL_client_56 : decode cL_client 56 = .ok (.iconst 2, 1) := by decide +kernel
theorem dL_client_57 : decode cL_client 57 = .ok (.if_icmp .ne 142, 3) := by decide +kernel
theorem dL_client_60 : decode cL_client 60 = .ok (.iload_n 3, 1) := by decide +kernel
theorem dL_client_61 : decode cL_client 61 = .ok (.bipush 40, 2) := by decide +kernel
theorem dL_client_63 : decode cL_client 63 = .ok (.irem, 1) := by decide +kernel
theorem dL_client_64 : decode cL_client 64 = .ok (.istore 11, 2) := by decide +kernel
theorem dL_client_66 : decode cL_client 66 = .ok (.aload_n 0, 1) := by decide +kernel
theorem dL_client_67 : decode cL_client 67 = .ok (.aload 5, 2) := by decide +kernel
theorem dL_client_69 : decode cL_client 69 = .ok (.aload 6, 2) := by decide +kernel
theorem dL_client_71 : decode cL_client 71 = .ok (.iload 11, 2) := by decide +kernel
theorem dL_client_73 : decode cL_client 73 = .ok (.invokestatic 83, 3) := by decide +kernel
theorem dL_client_76 : decode cL_client 76 = .ok (.istore 12, 2) := by decide +kernel
theorem dL_client_78 : decode cL_client 78 = .ok (.iload_n 2, 1) := by decide +kernel
theorem dL_client_79 : decode cL_client 79 = .ok (.iload 11, 2) := by decide +kernel
theorem dL_client_81 : decode cL_client 81 = .ok (.if_icmp .ne 8, 3) := by decide +kernel
theorem dL_client_84 : decode cL_client 84 = .ok (.bipush (-9), 2) := by decide +kernel
theorem dL_client_86 : decode cL_client 86 = .ok (.goto 24, 3) := by decide +kernel
theorem dL_client_89 : decode cL_client 89 = .ok (.iload 7, 2) := by decide +kernel
theorem dL_client_91 : decode cL_client 91 = .ok (.ifCond .ne 8, 3) := by decide +kernel
theorem dL_client_94 : decode cL_client 94 = .ok (.bipush (-10), 2) := by decide +kernel
theorem dL_client_96 : decode cL_client 96 = .ok (.goto 14, 3) := by decide +kernel
theorem dL_client_99 : decode cL_client 99 = .ok (.iload 12, 2) := by decide +kernel
theorem dL_client_101 : decode cL_client 101 = .ok (.ifCond .eq 8, 3) := by decide +kernel
theorem dL_client_104 : decode cL_client 104 = .ok (.bipush (-8), 2) := by decide +kernel
theorem dL_client_106 : decode cL_client 106 = .ok (.goto 4, 3) := by decide +kernel
theorem dL_client_109 : decode cL_client 109 = .ok (.iconst 0, 1) := by decide +kernel
theorem dL_client_110 : decode cL_client 110 = .ok (.istore 13, 2) := by decide +kernel
theorem dL_client_112 : decode cL_client 112 = .ok (.aload_n 0, 1) := by decide +kernel
theorem dL_client_113 : decode cL_client 113 = .ok (.iconst 2, 1) := by decide +kernel
theorem dL_client_114 : decode cL_client 114 = .ok (.iload_n 2, 1) := by decide +kernel
theorem dL_client_115 : decode cL_client 115 = .ok (.iload 11, 2) := by decide +kernel
theorem dL_client_117 : decode cL_client 117 = .ok (.iconst 0, 1) := by decide +kernel
theorem dL_client_118 : decode cL_client 118 = .ok (.invokestatic 112, 3) := by decide +kernel
theorem dL_client_121 : decode cL_client 121 = .ok (.istore 14, 2) := by decide +kernel
theorem dL_client_123 : decode cL_client 123 = .ok (.iload 13, 2) := by decide +kernel
theorem dL_client_125 : decode cL_client 125 = .ok (.ifCond .ne 38, 3) := by decide +kernel
theorem dL_client_128 : decode cL_client 128 = .ok (.aload 5, 2) := by decide +kernel
theorem dL_client_130 : decode cL_client 130 = .ok (.iload 11, 2) := by decide +kernel
theorem dL_client_132 : decode cL_client 132 = .ok (.aload 5, 2) := by decide +kernel
theorem dL_client_134 : decode cL_client 134 = .ok (.iload_n 2, 1) := by decide +kernel
theorem dL_client_135 : decode cL_client 135 = .ok (.iaload, 1) := by decide +kernel
theorem dL_client_136 : decode cL_client 136 = .ok (.iastore, 1) := by decide +kernel
theorem dL_client_137 : decode cL_client 137 = .ok (.aload 5, 2) := by decide +kernel
theorem dL_client_139 : decode cL_client 139 = .ok (.iload_n 2, 1) := by decide +kernel
theorem dL_client_140 : decode cL_client 140 = .ok (.iconst (-1), 1) := by decide +kernel
theorem dL_client_141 : decode cL_client 141 = .ok (.iastore, 1) := by decide +kernel
theorem dL_client_142 : decode cL_client 142 = .ok (.aload 6, 2) := by decide +kernel
theorem dL_client_144 : decode cL_client 144 = .ok (.bipush 6, 2) := by decide +kernel
theorem dL_client_146 : decode cL_client 146 = .ok (.dup2, 1) := by decide +kernel
theorem dL_client_147 : decode cL_client 147 = .ok (.iaload, 1) := by decide +kernel
theorem dL_client_148 : decode cL_client 148 = .ok (.aload 6, 2) := by decide +kernel
theorem dL_client_150 : decode cL_client 150 = .ok (.iconst 0, 1) := by decide +kernel
theorem dL_client_151 : decode cL_client 151 = .ok (.iaload, 1) := by decide +kernel
theorem dL_client_152 : decode cL_client 152 = .ok (.iconst 1, 1) := by decide +kernel
theorem dL_client_153 : decode cL_client 153 = .ok (.if_icmp .ne 7, 3) := by decide +kernel
theorem dL_client_156 : decode cL_client 156 = .ok (.iconst 2, 1) := by decide +kernel
theorem dL_client_157 : decode cL_client 157 = .ok (.goto 4, 3) := by decide +kernel
theorem dL_client_160 : decode cL_client 160 = .ok (.iconst 0, 1) := by decide +kernel
theorem dL_client_161 : decode cL_client 161 = .ok (.iadd, 1) := by decide +kernel
theorem dL_client_162 : decode cL_client 162 = .ok (.iastore, 1) := by decide +kernel
theorem dL_client_163 : decode cL_client 163 = .ok (.iload 14, 2) := by decide +kernel
theorem dL_client_165 : decode cL_client 165 = .ok (.iload 13, 2) := by decide +kernel
theorem dL_client_167 : decode cL_client 167 = .ok (.if_icmp .ne 30, 3) := by decide +kernel
theorem dL_client_170 : decode cL_client 170 = .ok (.iload 13, 2) := by decide +kernel
theorem dL_client_172 : decode cL_client 172 = .ok (.ifCond .eq 12, 3) := by decide +kernel
theorem dL_client_175 : decode cL_client 175 = .ok (.aload_n 0, 1) := by decide +kernel
theorem dL_client_176 : decode cL_client 176 = .ok (.invokevirtual 109, 3) := by decide +kernel
theorem dL_client_179 : decode cL_client 179 = .ok (.iload 10, 2) := by decide +kernel
theorem dL_client_181 : decode cL_client 181 = .ok (.if_icmp .ne 16, 3) := by decide +kernel
theorem dL_client_184 : decode cL_client 184 = .ok (.aload_n 0, 1) := by decide +kernel
theorem dL_client_185 : decode cL_client 185 = .ok (.invokevirtual 106, 3) := by decide +kernel
theorem dL_client_188 : decode cL_client 188 = .ok (.iload 9, 2) := by decide +kernel
theorem dL_client_190 : decode cL_client 190 = .ok (.if_icmp .ne 7, 3) := by decide +kernel
theorem dL_client_193 : decode cL_client 193 = .ok (.iconst 1, 1) := by decide +kernel
theorem dL_client_194 : decode cL_client 194 = .ok (.goto 4, 3) := by decide +kernel
theorem dL_client_197 : decode cL_client 197 = .ok (.iconst 0, 1) := by decide +kernel
theorem dL_client_198 : decode cL_client 198 = .ok (.ireturn, 1) := by decide +kernel
theorem dL_client_199 : decode cL_client 199 = .ok (.iload_n 1, 1) := by decide +kernel
theorem dL_client_200 : decode cL_client 200 = .ok (.iconst 3, 1) := by decide +kernel
theorem dL_client_201 : decode cL_client 201 = .ok (.if_icmp .ne 111, 3) := by decide +kernel
theorem dL_client_204 : decode cL_client 204 = .ok (.aload 5, 2) := by decide +kernel
theorem dL_client_206 : decode cL_client 206 = .ok (.iload_n 2, 1) := by decide +kernel
theorem dL_client_207 : decode cL_client 207 = .ok (.iaload, 1) := by decide +kernel
theorem dL_client_208 : decode cL_client 208 = .ok (.istore 11, 2) := by decide +kernel
theorem dL_client_210 : decode cL_client 210 = .ok (.aload_n 0, 1) := by decide +kernel
theorem dL_client_211 : decode cL_client 211 = .ok (.iconst 3, 1) := by decide +kernel
theorem dL_client_212 : decode cL_client 212 = .ok (.iload_n 2, 1) := by decide +kernel
theorem dL_client_213 : decode cL_client 213 = .ok (.iconst 0, 1) := by decide +kernel
theorem dL_client_214 : decode cL_client 214 = .ok (.iconst 0, 1) := by decide +kernel
theorem dL_client_215 : decode cL_client 215 = .ok (.invokestatic 112, 3) := by decide +kernel
theorem dL_client_218 : decode cL_client 218 = .ok (.istore 12, 2) := by decide +kernel
theorem dL_client_220 : decode cL_client 220 = .ok (.aload 5, 2) := by decide +kernel
theorem dL_client_222 : decode cL_client 222 = .ok (.iload_n 2, 1) := by decide +kernel
theorem dL_client_223 : decode cL_client 223 = .ok (.iload 7, 2) := by decide +kernel
theorem dL_client_225 : decode cL_client 225 = .ok (.ifCond .eq 7, 3) := by decide +kernel
theorem dL_client_228 : decode cL_client 228 = .ok (.iconst (-1), 1) := by decide +kernel
theorem dL_client_229 : decode cL_client 229 = .ok (.goto 5, 3) := by decide +kernel
theorem dL_client_232 : decode cL_client 232 = .ok (.iload 11, 2) := by decide +kernel
theorem dL_client_234 : decode cL_client 234 = .ok (.iastore, 1) := by decide +kernel
theorem dL_client_235 : decode cL_client 235 = .ok (.aload 6, 2) := by decide +kernel
theorem dL_client_237 : decode cL_client 237 = .ok (.bipush 6, 2) := by decide +kernel
theorem dL_client_239 : decode cL_client 239 = .ok (.dup2, 1) := by decide +kernel
theorem dL_client_240 : decode cL_client 240 = .ok (.iaload, 1) := by decide +kernel
theorem dL_client_241 : decode cL_client 241 = .ok (.iload 7, 2) := by decide +kernel
theorem dL_client_243 : decode cL_client 243 = .ok (.ifCond .eq 15, 3) := by decide +kernel
theorem dL_client_246 : decode cL_client 246 = .ok (.aload 6, 2) := by decide +kernel
theorem dL_client_248 : decode cL_client 248 = .ok (.iconst 0, 1) := by decide +kernel
theorem dL_client_249 : decode cL_client 249 = .ok (.iaload, 1) := by decide +kernel
theorem dL_client_250 : decode cL_client 250 = .ok (.iconst 1, 1) := by decide +kernel
theorem dL_client_251 : decode cL_client 251 = .ok (.if_icmp .ne 7, 3) := by decide +kernel
theorem dL_client_254 : decode cL_client 254 = .ok (.iconst 1, 1) := by decide +kernel
theorem dL_client_255 : decode cL_client 255 = .ok (.goto 4, 3) := by decide +kernel
theorem dL_client_258 : decode cL_client 258 = .ok (.iconst 0, 1) := by decide +kernel
theorem dL_client_259 : decode cL_client 259 = .ok (.iadd, 1) := by decide +kernel
theorem dL_client_260 : decode cL_client 260 = .ok (.iastore, 1) := by decide +kernel
theorem dL_client_261 : decode cL_client 261 = .ok (.iload 12, 2) := by decide +kernel
theorem dL_client_263 : decode cL_client 263 = .ok (.iload 7, 2) := by decide +kernel
theorem dL_client_265 : decode cL_client 265 = .ok (.ifCond .eq 8, 3) := by decide +kernel
theorem dL_client_268 : decode cL_client 268 = .ok (.iload 11, 2) := by decide +kernel
theorem dL_client_270 : decode cL_client 270 = .ok (.goto 5, 3) := by decide +kernel
theorem dL_client_273 : decode cL_client 273 = .ok (.bipush (-10), 2) := by decide +kernel
theorem dL_client_275 : decode cL_client 275 = .ok (.if_icmp .ne 35, 3) := by decide +kernel
theorem dL_client_278 : decode cL_client 278 = .ok (.aload_n 0, 1) := by decide +kernel
theorem dL_client_279 : decode cL_client 279 = .ok (.invokevirtual 106, 3) := by decide +kernel
theorem dL_client_282 : decode cL_client 282 = .ok (.iload 9, 2) := by decide +kernel
theorem dL_client_284 : decode cL_client 284 = .ok (.iload 7, 2) := by decide +kernel
theorem dL_client_286 : decode cL_client 286 = .ok (.ifCond .eq 15, 3) := by decide +kernel
theorem dL_client_289 : decode cL_client 289 = .ok (.aload 6, 2) := by decide +kernel
theorem dL_client_291 : decode cL_client 291 = .ok (.iconst 0, 1) := by decide +kernel
theorem dL_client_292 : decode cL_client 292 = .ok (.iaload, 1) := by decide +kernel
theorem dL_client_293 : decode cL_client 293 = .ok (.iconst 2, 1) := by decide +kernel
theorem dL_client_294 : decode cL_client 294 = .ok (.if_icmp .ne 7, 3) := by decide +kernel
theorem dL_client_297 : decode cL_client 297 = .ok (.iconst 1, 1) := by decide +kernel
theorem dL_client_298 : decode cL_client 298 = .ok (.goto 4, 3) := by decide +kernel
theorem dL_client_301 : decode cL_client 301 = .ok (.iconst 0, 1) := by decide +kernel
theorem dL_client_302 : decode cL_client 302 = .ok (.isub, 1) := by decide +kernel
theorem dL_client_303 : decode cL_client 303 = .ok (.if_icmp .ne 7, 3) := by decide +kernel
theorem dL_client_306 : decode cL_client 306 = .ok (.iconst 1, 1) := by decide +kernel
theorem dL_client_307 : decode cL_client 307 = .ok (.goto 4, 3) := by decide +kernel
