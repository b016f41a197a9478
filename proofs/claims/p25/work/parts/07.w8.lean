theorem dL_step_159 : decode cL_step 159 = .ok (.iload_n 3, 1) := by decide +kernel
theorem dL_step_160 : decode cL_step 160 = .ok (.bipush 21, 2) := by decide +kernel
theorem dL_step_162 : decode cL_step 162 = .ok (.irem, 1) := by decide +kernel
theorem dL_step_163 : decode cL_step 163 = .ok (.iastore, 1) := by decide +kernel
theorem dL_step_164 : decode cL_step 164 = .ok (.aload_n 0, 1) := by decide +kernel
theorem dL_step_165 : decode cL_step 165 = .ok (.aload 5, 2) := by decide +kernel
theorem dL_step_167 : decode cL_step 167 = .ok (.iconst 3, 1) := by decide +kernel
theorem dL_step_168 : decode cL_step 168 = .ok (.iaload, 1) := by decide +kernel
theorem dL_step_169 : decode cL_step 169 = .ok (.aload 5, 2) := by decide +kernel
theorem dL_step_171 : decode cL_step 171 = .ok (.iconst 4, 1) := by decide +kernel
theorem dL_step_172 : decode cL_step 172 = .ok (.iaload, 1) := by decide +kernel
theorem dL_step_173 : decode cL_step 173 = .ok (.invokevirtual 123, 3) := by decide +kernel
theorem dL_step_176 : decode cL_step 176 = .ok (.iconst 1, 1) := by decide +kernel
theorem dL_step_177 : decode cL_step 177 = .ok (.ireturn, 1) := by decide +kernel
theorem dL_step_178 : decode cL_step 178 = .ok (.iload_n 1, 1) := by decide +kernel
theorem dL_step_179 : decode cL_step 179 = .ok (.bipush 17, 2) := by decide +kernel
theorem dL_step_181 : decode cL_step 181 = .ok (.if_icmp .ge 8, 3) := by decide +kernel
theorem dL_step_184 : decode cL_step 184 = .ok (.bipush 9, 2) := by decide +kernel
theorem dL_step_186 : decode cL_step 186 = .ok (.goto 47, 3) := by decide +kernel
theorem dL_step_189 : decode cL_step 189 = .ok (.iload_n 1, 1) := by decide +kernel
theorem dL_step_190 : decode cL_step 190 = .ok (.bipush 17, 2) := by decide +kernel
theorem dL_step_192 : decode cL_step 192 = .ok (.if_icmp .ne 7, 3) := by decide +kernel
theorem dL_step_195 : decode cL_step 195 = .ok (.iconst 5, 1) := by decide +kernel
theorem dL_step_196 : decode cL_step 196 = .ok (.goto 37, 3) := by decide +kernel
theorem dL_step_199 : decode cL_step 199 = .ok (.iload_n 1, 1) := by decide +kernel
theorem dL_step_200 : decode cL_step 200 = .ok (.bipush 18, 2) := by decide +kernel
theorem dL_step_202 : decode cL_step 202 = .ok (.if_icmp .ne 8, 3) := by decide +kernel
theorem dL_step_205 : decode cL_step 205 = .ok (.bipush 6, 2) := by decide +kernel
theorem dL_step_207 : decode cL_step 207 = .ok (.goto 26, 3) := by decide +kernel
theorem dL_step_210 : decode cL_step 210 = .ok (.iload_n 1, 1) := by decide +kernel
theorem dL_step_211 : decode cL_step 211 = .ok (.bipush 19, 2) := by decide +kernel
theorem dL_step_213 : decode cL_step 213 = .ok (.if_icmp .ne 8, 3) := by decide +kernel
theorem dL_step_216 : decode cL_step 216 = .ok (.bipush 8, 2) := by decide +kernel
theorem dL_step_218 : decode cL_step 218 = .ok (.goto 15, 3) := by decide +kernel
theorem dL_step_221 : decode cL_step 221 = .ok (.iload_n 3, 1) := by decide +kernel
theorem dL_step_222 : decode cL_step 222 = .ok (.iconst 3, 1) := by decide +kernel
theorem dL_step_223 : decode cL_step 223 = .ok (.irem, 1) := by decide +kernel
theorem dL_step_224 : decode cL_step 224 = .ok (.ifCond .ne 8, 3) := by decide +kernel
theorem dL_step_227 : decode cL_step 227 = .ok (.bipush 7, 2) := by decide +kernel
theorem dL_step_229 : decode cL_step 229 = .ok (.goto 4, 3) := by decide +kernel
theorem dL_step_232 : decode cL_step 232 = .ok (.iconst 5, 1) := by decide +kernel
theorem dL_step_233 : decode cL_step 233 = .ok (.istore 6, 2) := by decide +kernel
theorem dL_step_235 : decode cL_step 235 = .ok (.aload_n 0, 1) := by decide +kernel
theorem dL_step_236 : decode cL_step 236 = .ok (.iload 6, 2) := by decide +kernel
theorem dL_step_238 : decode cL_step 238 = .ok (.iload_n 2, 1) := by decide +kernel
theorem dL_step_239 : decode cL_step 239 = .ok (.iload_n 3, 1) := by decide +kernel
theorem dL_step_240 : decode cL_step 240 = .ok (.aload 4, 2) := by decide +kernel
theorem dL_step_242 : decode cL_step 242 = .ok (.aload 5, 2) := by decide +kernel
theorem dL_step_244 : decode cL_step 244 = .ok (.invokestatic 126, 3) := by decide +kernel
theorem dL_step_247 : decode cL_step 247 = .ok (.ireturn, 1) := by decide +kernel
theorem dL_table_0 : decode cL_table 0 = .ok (.new 11, 3) := by decide +kernel
theorem dL_table_3 : decode cL_table 3 = .ok (.dup, 1) := by decide +kernel
theorem dL_table_4 : decode cL_table 4 = .ok (.invokespecial 130, 3) := by decide +kernel
theorem dL_table_7 : decode cL_table 7 = .ok (.astore_n 2, 1) := by decide +kernel
theorem dL_table_8 : decode cL_table 8 = .ok (.bipush 40, 2) := by decide +kernel
theorem dL_table_10 : decode cL_table 10 = .ok (.newarray .int, 2) := by decide +kernel
theorem dL_table_12 : decode cL_table 12 = .ok (.astore_n 3, 1) := by decide +kernel
theorem dL_table_13 : decode cL_table 13 = .ok (.bipush 7, 2) := by decide +kernel
theorem dL_table_15 : decode cL_table 15 = .ok (.newarray .int, 2) := by decide +kernel
theorem dL_table_17 : decode cL_table 17 = .ok (.astore 4, 2) := by decide +kernel
theorem dL_table_19 : decode cL_table 19 = .ok (.iconst 0, 1) := by decide +kernel
theorem dL_table_20 : decode cL_table 20 = .ok (.istore 5, 2) := by decide +kernel
theorem dL_table_22 : decode cL_table 22 = .ok (.iload 5, 2) := by decide +kernel
theorem dL_table_24 : decode cL_table 24 = .ok (.bipush 40, 2) := by decide +kernel
theorem dL_table_26 : decode cL_table 26 = .ok (.if_icmp .ge 14, 3) := by decide +kernel
theorem dL_table_29 : decode cL_table 29 = .ok (.aload_n 3, 1) := by decide +kernel
theorem dL_table_30 : decode cL_table 30 = .ok (.iload 5, 2) := by decide +kernel
theorem dL_table_32 : decode cL_table 32 = .ok (.iconst (-1), 1) := by decide +kernel
theorem dL_table_33 : decode cL_table 33 = .ok (.iastore, 1) := by decide +kernel
theorem dL_table_34 : decode cL_table 34 = .ok (.iinc 5 1, 3) := by decide +kernel
theorem dL_table_37 : decode cL_table 37 = .ok (.goto (-15), 3) := by decide +kernel
theorem dL_table_40 : decode cL_table 40 = .ok (.aload 4, 2) := by decide +kernel
theorem dL_table_42 : decode cL_table 42 = .ok (.iconst 3, 1) := by decide +kernel
theorem dL_table_43 : decode cL_table 43 = .ok (.bipush 8, 2) := by decide +kernel
theorem dL_table_45 : decode cL_table 45 = .ok (.iastore, 1) := by decide +kernel
theorem dL_table_46 : decode cL_table 46 = .ok (.aload 4, 2) := by decide +kernel
theorem dL_table_48 : decode cL_table 48 = .ok (.iconst 4, 1) := by decide +kernel
theorem dL_table_49 : decode cL_table 49 = .ok (.bipush 10, 2) := by decide +kernel
theorem dL_table_51 : decode cL_table 51 = .ok (.iastore, 1) := by decide +kernel
theorem dL_table_52 : decode cL_table 52 = .ok (.iconst 0, 1) := by decide +kernel
theorem dL_table_53 : decode cL_table 53 = .ok (.istore 5, 2) := by decide +kernel
theorem dL_table_55 : decode cL_table 55 = .ok (.iload 5, 2) := by decide +kernel
theorem dL_table_57 : decode cL_table 57 = .ok (.bipush 60, 2) := by decide +kernel
theorem dL_table_59 : decode cL_table 59 = .ok (.if_icmp .ge 106, 3) := by decide +kernel
theorem dL_table_62 : decode cL_table 62 = .ok (.aload_n 0, 1) := by decide +kernel
theorem dL_table_63 : decode cL_table 63 = .ok (.iload_n 1, 1) := by decide +kernel
theorem dL_table_64 : decode cL_table 64 = .ok (.iconst 3, 1) := by decide +kernel
theorem dL_table_65 : decode cL_table 65 = .ok (.iload 5, 2) := by decide +kernel
theorem dL_table_67 : decode cL_table 67 = .ok (.imul, 1) := by decide +kernel
theorem dL_table_68 : decode cL_table 68 = .ok (.iadd, 1) := by decide +kernel
theorem dL_table_69 : decode cL_table 69 = .ok (.iconst 1, 1) := by decide +kernel
theorem dL_table_70 : decode cL_table 70 = .ok (.iadd, 1) := by decide +kernel
theorem dL_table_71 : decode cL_table 71 = .ok (.ldc 131, 2) := by decide +kernel
theorem dL_table_73 : decode cL_table 73 = .ok (.invokestatic 132, 3) := by decide +kernel
theorem dL_table_76 : decode cL_table 76 = .ok (.istore 6, 2) := by decide +kernel
theorem dL_table_78 : decode cL_table 78 = .ok (.aload_n 0, 1) := by decide +kernel
theorem dL_table_79 : decode cL_table 79 = .ok (.iload_n 1, 1) := by decide +kernel
theorem dL_table_80 : decode cL_table 80 = .ok (.iconst 3, 1) := by decide +kernel
theorem dL_table_81 : decode cL_table 81 = .ok (.iload 5, 2) := by decide +kernel
theorem dL_table_83 : decode cL_table 83 = .ok (.imul, 1) := by decide +kernel
theorem dL_table_84 : decode cL_table 84 = .ok (.iadd, 1) := by decide +kernel
theorem dL_table_85 : decode cL_table 85 = .ok (.iconst 2, 1) := by decide +kernel
theorem dL_table_86 : decode cL_table 86 = .ok (.iadd, 1) := by decide +kernel
theorem dL_table_87 : decode cL_table 87 = .ok (.ldc 131, 2) := by decide +kernel
theorem dL_table_89 : decode cL_table 89 = .ok (.invokestatic 132, 3) := by decide +kernel
theorem dL_table_92 : decode cL_table 92 = .ok (.istore 7, 2) := by decide +kernel
theorem dL_table_94 : decode cL_table 94 = .ok (.iload 5, 2) := by decide +kernel
theorem dL_table_96 : decode cL_table 96 = .ok (.bipush 8, 2) := by decide +kernel
theorem dL_table_98 : decode cL_table 98 = .ok (.if_icmp .ge 7, 3) := by decide +kernel
theorem dL_table_101 : decode cL_table 101 = .ok (.iconst 0, 1) := by decide +kernel
theorem dL_table_102 : decode cL_table 102 = .ok (.goto 27, 3) := by decide +kernel
theorem dL_table_105 : decode cL_table 105 = .ok (.iload 5, 2) := by decide +kernel
theorem dL_table_107 : decode cL_table 107 = .ok (.bipush 8, 2) := by decide +kernel
theorem dL_table_109 : decode cL_table 109 = .ok (.if_icmp .ne 8, 3) := by decide +kernel
theorem dL_table_112 : decode cL_table 112 = .ok (.bipush 15, 2) := by decide +kernel
theorem dL_table_114 : decode cL_table 114 = .ok (.goto 15, 3) := by decide +kernel
theorem dL_table_117 : decode cL_table 117 = .ok (.aload_n 0, 1) := by decide +kernel
theorem dL_table_118 : decode cL_table 118 = .ok (.iload_n 1, 1) := by decide +kernel
theorem dL_table_119 : decode cL_table 119 = .ok (.iconst 3, 1) := by decide +kernel
theorem dL_table_120 : decode cL_table 120 = .ok (.iload 5, 2) := by decide +kernel
theorem dL_table_122 : decode cL_table 122 = .ok (.imul, 1) := by decide +kernel
theorem dL_table_123 : decode cL_table 123 = .ok (.iadd, 1) := by decide +kernel
theorem dL_table_124 : decode cL_table 124 = .ok (.bipush 21, 2) := by decide +kernel
theorem dL_table_126 : decode cL_table 126 = .ok (.invokestatic 132, 3) := by decide +kernel
theorem dL_table_129 : decode cL_table 129 = .ok (.istore 8, 2) := by decide +kernel
theorem dL_table_131 : decode cL_table 131 = .ok (.aload_n 2, 1) := by decide +kernel
theorem dL_table_132 : decode cL_table 132 = .ok (.iload 8, 2) := by decide +kernel
theorem dL_table_134 : decode cL_table 134 = .ok (.iload 6, 2) := by decide +kernel
theorem dL_table_136 : decode cL_table 136 = .ok (.iload 7, 2) := by decide +kernel
theorem dL_table_138 : decode cL_table 138 = .ok (.aload_n 3, 1) := by decide +kernel
theorem dL_table_139 : decode cL_table 139 = .ok (.aload 4, 2) := by decide +kernel
theorem dL_table_141 : decode cL_table 141 = .ok (.invokestatic 135, 3) := by decide +kernel
theorem dL_table_144 : decode cL_table 144 = .ok (.ifCond .eq 13, 3) := by decide +kernel
theorem dL_table_147 : decode cL_table 147 = .ok (.aload_n 2, 1) := by decide +kernel
theorem dL_table_148 : decode cL_table 148 = .ok (.aload_n 3, 1) := by decide +kernel
theorem dL_table_149 : decode cL_table 149 = .ok (.aload 4, 2) := by decide +kernel
theorem dL_table_151 : decode cL_table 151 = .ok (.invokestatic 138, 3) := by decide +kernel
theorem dL_table_154 : decode cL_table 154 = .ok (.ifCond .ne 5, 3) := by decide +kernel
theorem dL_table_157 : decode cL_table 157 = .ok (.iconst 0, 1) := by decide +kernel
theorem dL_table_158 : decode cL_table 158 = .ok (.ireturn, 1) := by decide +kernel
theorem dL_table_159 : decode cL_table 159 = .ok (.iinc 5 1, 3) := by decide +kernel
theorem dL_table_162 : decode cL_table 162 = .ok (.goto (-107), 3) := by decide +kernel
theorem dL_table_165 : decode cL_table 165 = .ok (.iconst 1, 1) := by decide +kernel
theorem dL_table_166 : decode cL_table 166 = .ok (.ireturn, 1) := by decide +kernel
