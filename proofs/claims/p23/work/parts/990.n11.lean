theorem dL_most_166 : decode cL_most 166 = .ok (.if_icmp .ne 157, 3) := by decide +kernel
theorem dL_most_169 : decode cL_most 169 = .ok (.aload_n 0, 1) := by decide +kernel
theorem dL_most_170 : decode cL_most 170 = .ok (.iconst 1, 1) := by decide +kernel
theorem dL_most_171 : decode cL_most 171 = .ok (.bipush 120, 2) := by decide +kernel
theorem dL_most_173 : decode cL_most 173 = .ok (.bipush 30, 2) := by decide +kernel
theorem dL_most_175 : decode cL_most 175 = .ok (.bipush 16, 2) := by decide +kernel
theorem dL_most_177 : decode cL_most 177 = .ok (.bipush 90, 2) := by decide +kernel
theorem dL_most_179 : decode cL_most 179 = .ok (.bipush 90, 2) := by decide +kernel
theorem dL_most_181 : decode cL_most 181 = .ok (.iconst 0, 1) := by decide +kernel
theorem dL_most_182 : decode cL_most 182 = .ok (.invokestatic 97, 3) := by decide +kernel
theorem dL_most_185 : decode cL_most 185 = .ok (.ifCond .eq 138, 3) := by decide +kernel
theorem dL_most_188 : decode cL_most 188 = .ok (.aload_n 0, 1) := by decide +kernel
theorem dL_most_189 : decode cL_most 189 = .ok (.iconst 1, 1) := by decide +kernel
theorem dL_most_190 : decode cL_most 190 = .ok (.iconst 5, 1) := by decide +kernel
theorem dL_most_191 : decode cL_most 191 = .ok (.invokevirtual 46, 3) := by decide +kernel
theorem dL_most_194 : decode cL_most 194 = .ok (.iconst 2, 1) := by decide +kernel
theorem dL_most_195 : decode cL_most 195 = .ok (.if_icmp .ne 128, 3) := by decide +kernel
theorem dL_most_198 : decode cL_most 198 = .ok (.aload_n 0, 1) := by decide +kernel
theorem dL_most_199 : decode cL_most 199 = .ok (.iconst 1, 1) := by decide +kernel
theorem dL_most_200 : decode cL_most 200 = .ok (.iconst 0, 1) := by decide +kernel
theorem dL_most_201 : decode cL_most 201 = .ok (.invokevirtual 52, 3) := by decide +kernel
theorem dL_most_204 : decode cL_most 204 = .ok (.bipush 119, 2) := by decide +kernel
theorem dL_most_206 : decode cL_most 206 = .ok (.if_icmp .ne 117, 3) := by decide +kernel
theorem dL_most_209 : decode cL_most 209 = .ok (.aload_n 0, 1) := by decide +kernel
theorem dL_most_210 : decode cL_most 210 = .ok (.iconst 1, 1) := by decide +kernel
theorem dL_most_211 : decode cL_most 211 = .ok (.bipush 89, 2) := by decide +kernel
theorem dL_most_213 : decode cL_most 213 = .ok (.invokevirtual 52, 3) := by decide +kernel
theorem dL_most_216 : decode cL_most 216 = .ok (.bipush 30, 2) := by decide +kernel
theorem dL_most_218 : decode cL_most 218 = .ok (.if_icmp .ne 105, 3) := by decide +kernel
theorem dL_most_221 : decode cL_most 221 = .ok (.aload_n 0, 1) := by decide +kernel
theorem dL_most_222 : decode cL_most 222 = .ok (.iconst 1, 1) := by decide +kernel
theorem dL_most_223 : decode cL_most 223 = .ok (.bipush 90, 2) := by decide +kernel
theorem dL_most_225 : decode cL_most 225 = .ok (.invokevirtual 52, 3) := by decide +kernel
theorem dL_most_228 : decode cL_most 228 = .ok (.ifCond .ne 95, 3) := by decide +kernel
theorem dL_most_231 : decode cL_most 231 = .ok (.aload_n 0, 1) := by decide +kernel
theorem dL_most_232 : decode cL_most 232 = .ok (.iconst 1, 1) := by decide +kernel
theorem dL_most_233 : decode cL_most 233 = .ok (.bipush 91, 2) := by decide +kernel
theorem dL_most_235 : decode cL_most 235 = .ok (.invokevirtual 52, 3) := by decide +kernel
theorem dL_most_238 : decode cL_most 238 = .ok (.iconst (-1), 1) := by decide +kernel
theorem dL_most_239 : decode cL_most 239 = .ok (.if_icmp .ne 84, 3) := by decide +kernel
theorem dL_most_242 : decode cL_most 242 = .ok (.aload_n 0, 1) := by decide +kernel
theorem dL_most_243 : decode cL_most 243 = .ok (.iconst 1, 1) := by decide +kernel
theorem dL_most_244 : decode cL_most 244 = .ok (.iconst 0, 1) := by decide +kernel
theorem dL_most_245 : decode cL_most 245 = .ok (.sipush 21845, 3) := by decide +kernel
theorem dL_most_248 : decode cL_most 248 = .ok (.invokestatic 102, 3) := by decide +kernel
theorem dL_most_251 : decode cL_most 251 = .ok (.ifCond .eq 72, 3) := by decide +kernel
theorem dL_most_254 : decode cL_most 254 = .ok (.aload_n 0, 1) := by decide +kernel
theorem dL_most_255 : decode cL_most 255 = .ok (.iconst 1, 1) := by decide +kernel
theorem dL_most_256 : decode cL_most 256 = .ok (.ldc 127, 2) := by decide +kernel
theorem dL_most_258 : decode cL_most 258 = .ok (.ldc 128, 2) := by decide +kernel
theorem dL_most_260 : decode cL_most 260 = .ok (.invokestatic 102, 3) := by decide +kernel
theorem dL_most_263 : decode cL_most 263 = .ok (.ifCond .eq 60, 3) := by decide +kernel
theorem dL_most_266 : decode cL_most 266 = .ok (.aload_n 0, 1) := by decide +kernel
theorem dL_most_267 : decode cL_most 267 = .ok (.iconst 1, 1) := by decide +kernel
theorem dL_most_268 : decode cL_most 268 = .ok (.iconst 0, 1) := by decide +kernel
theorem dL_most_269 : decode cL_most 269 = .ok (.iconst 1, 1) := by decide +kernel
theorem dL_most_270 : decode cL_most 270 = .ok (.bipush 90, 2) := by decide +kernel
theorem dL_most_272 : decode cL_most 272 = .ok (.bipush 90, 2) := by decide +kernel
theorem dL_most_274 : decode cL_most 274 = .ok (.bipush 16, 2) := by decide +kernel
theorem dL_most_276 : decode cL_most 276 = .ok (.invokestatic 108, 3) := by decide +kernel
theorem dL_most_279 : decode cL_most 279 = .ok (.ifCond .eq 44, 3) := by decide +kernel
theorem dL_most_282 : decode cL_most 282 = .ok (.aload_n 0, 1) := by decide +kernel
theorem dL_most_283 : decode cL_most 283 = .ok (.bipush 16, 2) := by decide +kernel
theorem dL_most_285 : decode cL_most 285 = .ok (.iconst 1, 1) := by decide +kernel
theorem dL_most_286 : decode cL_most 286 = .ok (.iconst 0, 1) := by decide +kernel
theorem dL_most_287 : decode cL_most 287 = .ok (.iconst 0, 1) := by decide +kernel
theorem dL_most_288 : decode cL_most 288 = .ok (.iconst 0, 1) := by decide +kernel
theorem dL_most_289 : decode cL_most 289 = .ok (.invokestatic 86, 3) := by decide +kernel
theorem dL_most_292 : decode cL_most 292 = .ok (.ldc 81, 2) := by decide +kernel
theorem dL_most_294 : decode cL_most 294 = .ok (.if_icmp .ne 29, 3) := by decide +kernel
theorem dL_most_297 : decode cL_most 297 = .ok (.aload_n 0, 1) := by decide +kernel
theorem dL_most_298 : decode cL_most 298 = .ok (.bipush 18, 2) := by decide +kernel
theorem dL_most_300 : decode cL_most 300 = .ok (.iconst 1, 1) := by decide +kernel
theorem dL_most_301 : decode cL_most 301 = .ok (.iconst 1, 1) := by decide +kernel
theorem dL_most_302 : decode cL_most 302 = .ok (.iconst 0, 1) := by decide +kernel
theorem dL_most_303 : decode cL_most 303 = .ok (.iconst 0, 1) := by decide +kernel
theorem dL_most_304 : decode cL_most 304 = .ok (.invokestatic 86, 3) := by decide +kernel
theorem dL_most_307 : decode cL_most 307 = .ok (.ldc 81, 2) := by decide +kernel
theorem dL_most_309 : decode cL_most 309 = .ok (.if_icmp .ne 14, 3) := by decide +kernel
theorem dL_most_312 : decode cL_most 312 = .ok (.aload_n 0, 1) := by decide +kernel
theorem dL_most_313 : decode cL_most 313 = .ok (.invokestatic 93, 3) := by decide +kernel
theorem dL_most_316 : decode cL_most 316 = .ok (.ifCond .eq 7, 3) := by decide +kernel
theorem dL_most_319 : decode cL_most 319 = .ok (.iconst 1, 1) := by decide +kernel
theorem dL_most_320 : decode cL_most 320 = .ok (.goto 4, 3) := by decide +kernel
theorem dL_most_323 : decode cL_most 323 = .ok (.iconst 0, 1) := by decide +kernel
theorem dL_most_324 : decode cL_most 324 = .ok (.ireturn, 1) := by decide +kernel
theorem dL_law_0 : decode cL_law 0 = .ok (.invokestatic 129, 3) := by decide +kernel
theorem dL_law_3 : decode cL_law 3 = .ok (.ifCond .ne 5, 3) := by decide +kernel
theorem dL_law_6 : decode cL_law 6 = .ok (.iconst 0, 1) := by decide +kernel
theorem dL_law_7 : decode cL_law 7 = .ok (.ireturn, 1) := by decide +kernel
theorem dL_law_8 : decode cL_law 8 = .ok (.new 8, 3) := by decide +kernel
theorem dL_law_11 : decode cL_law 11 = .ok (.dup, 1) := by decide +kernel
theorem dL_law_12 : decode cL_law 12 = .ok (.invokespecial 92, 3) := by decide +kernel
theorem dL_law_15 : decode cL_law 15 = .ok (.astore_n 1, 1) := by decide +kernel
theorem dL_law_16 : decode cL_law 16 = .ok (.iconst 0, 1) := by decide +kernel
theorem dL_law_17 : decode cL_law 17 = .ok (.istore_n 2, 1) := by decide +kernel
theorem dL_law_18 : decode cL_law 18 = .ok (.iload_n 2, 1) := by decide +kernel
theorem dL_law_19 : decode cL_law 19 = .ok (.bipush 70, 2) := by decide +kernel
theorem dL_law_21 : decode cL_law 21 = .ok (.if_icmp .ge 589, 3) := by decide +kernel
theorem dL_law_24 : decode cL_law 24 = .ok (.aload_n 0, 1) := by decide +kernel
theorem dL_law_25 : decode cL_law 25 = .ok (.arraylength, 1) := by decide +kernel
theorem dL_law_26 : decode cL_law 26 = .ok (.ifCond .ne 10, 3) := by decide +kernel
theorem dL_law_29 : decode cL_law 29 = .ok (.bipush 109, 2) := by decide +kernel
theorem dL_law_31 : decode cL_law 31 = .ok (.iload_n 2, 1) := by decide +kernel
theorem dL_law_32 : decode cL_law 32 = .ok (.imul, 1) := by decide +kernel
theorem dL_law_33 : decode cL_law 33 = .ok (.goto 12, 3) := by decide +kernel
theorem dL_law_36 : decode cL_law 36 = .ok (.aload_n 0, 1) := by decide +kernel
theorem dL_law_37 : decode cL_law 37 = .ok (.iload_n 2, 1) := by decide +kernel
theorem dL_law_38 : decode cL_law 38 = .ok (.aload_n 0, 1) := by decide +kernel
theorem dL_law_39 : decode cL_law 39 = .ok (.arraylength, 1) := by decide +kernel
theorem dL_law_40 : decode cL_law 40 = .ok (.irem, 1) := by decide +kernel
theorem dL_law_41 : decode cL_law 41 = .ok (.iaload, 1) := by decide +kernel
theorem dL_law_42 : decode cL_law 42 = .ok (.bipush 8, 2) := by decide +kernel
theorem dL_law_44 : decode cL_law 44 = .ok (.iushr, 1) := by decide +kernel
theorem dL_law_45 : decode cL_law 45 = .ok (.istore_n 3, 1) := by decide +kernel
theorem dL_law_46 : decode cL_law 46 = .ok (.iload_n 3, 1) := by decide +kernel
theorem dL_law_47 : decode cL_law 47 = .ok (.bipush 14, 2) := by decide +kernel
theorem dL_law_49 : decode cL_law 49 = .ok (.irem, 1) := by decide +kernel
theorem dL_law_50 : decode cL_law 50 = .ok (.istore 4, 2) := by decide +kernel
theorem dL_law_52 : decode cL_law 52 = .ok (.iload_n 3, 1) := by decide +kernel
theorem dL_law_53 : decode cL_law 53 = .ok (.bipush 14, 2) := by decide +kernel
theorem dL_law_55 : decode cL_law 55 = .ok (.idiv, 1) := by decide +kernel
theorem dL_law_56 : decode cL_law 56 = .ok (.istore 5, 2) := by decide +kernel
theorem dL_law_58 : decode cL_law 58 = .ok (.iload 5, 2) := by decide +kernel
theorem dL_law_60 : decode cL_law 60 = .ok (.bipush 100, 2) := by decide +kernel
theorem dL_law_62 : decode cL_law 62 = .ok (.idiv, 1) := by decide +kernel
theorem dL_law_63 : decode cL_law 63 = .ok (.istore 6, 2) := by decide +kernel
theorem dL_law_65 : decode cL_law 65 = .ok (.iload 5, 2) := by decide +kernel
theorem dL_law_67 : decode cL_law 67 = .ok (.iconst 4, 1) := by decide +kernel
theorem dL_law_68 : decode cL_law 68 = .ok (.irem, 1) := by decide +kernel
theorem dL_law_69 : decode cL_law 69 = .ok (.istore 7, 2) := by decide +kernel
theorem dL_law_71 : decode cL_law 71 = .ok (.aload_n 1, 1) := by decide +kernel
theorem dL_law_72 : decode cL_law 72 = .ok (.iload 7, 2) := by decide +kernel
theorem dL_law_74 : decode cL_law 74 = .ok (.iconst 0, 1) := by decide +kernel
theorem dL_law_75 : decode cL_law 75 = .ok (.invokevirtual 46, 3) := by decide +kernel
theorem dL_law_78 : decode cL_law 78 = .ok (.istore 8, 2) := by decide +kernel
theorem dL_law_80 : decode cL_law 80 = .ok (.aload_n 1, 1) := by decide +kernel
theorem dL_law_81 : decode cL_law 81 = .ok (.iload 7, 2) := by decide +kernel
theorem dL_law_83 : decode cL_law 83 = .ok (.iconst 1, 1) := by decide +kernel
theorem dL_law_84 : decode cL_law 84 = .ok (.invokevirtual 46, 3) := by decide +kernel
theorem dL_law_87 : decode cL_law 87 = .ok (.istore 9, 2) := by decide +kernel
theorem dL_law_89 : decode cL_law 89 = .ok (.iload 4, 2) := by decide +kernel
theorem dL_law_91 : decode cL_law 91 = .ok (.ifCond .ne 41, 3) := by decide +kernel
theorem dL_law_94 : decode cL_law 94 = .ok (.iload 5, 2) := by decide +kernel
theorem dL_law_96 : decode cL_law 96 = .ok (.iconst 5, 1) := by decide +kernel
theorem dL_law_97 : decode cL_law 97 = .ok (.irem, 1) := by decide +kernel
theorem dL_law_98 : decode cL_law 98 = .ok (.ifCond .ne 34, 3) := by decide +kernel
theorem dL_law_101 : decode cL_law 101 = .ok (.aload_n 1, 1) := by decide +kernel
theorem dL_law_102 : decode cL_law 102 = .ok (.iload 7, 2) := by decide +kernel
theorem dL_law_104 : decode cL_law 104 = .ok (.invokevirtual 28, 3) := by decide +kernel
theorem dL_law_107 : decode cL_law 107 = .ok (.iload 8, 2) := by decide +kernel
theorem dL_law_109 : decode cL_law 109 = .ok (.if_icmp .ne 21, 3) := by decide +kernel
theorem dL_law_112 : decode cL_law 112 = .ok (.aload_n 1, 1) := by decide +kernel
theorem dL_law_113 : decode cL_law 113 = .ok (.iload 7, 2) := by decide +kernel
theorem dL_law_115 : decode cL_law 115 = .ok (.iconst 1, 1) := by decide +kernel
theorem dL_law_116 : decode cL_law 116 = .ok (.invokevirtual 46, 3) := by decide +kernel
theorem dL_law_119 : decode cL_law 119 = .ok (.aload_n 1, 1) := by decide +kernel
theorem dL_law_120 : decode cL_law 120 = .ok (.iload 7, 2) := by decide +kernel
theorem dL_law_122 : decode cL_law 122 = .ok (.iconst 2, 1) := by decide +kernel
theorem dL_law_123 : decode cL_law 123 = .ok (.invokevirtual 46, 3) := by decide +kernel
theorem dL_law_126 : decode cL_law 126 = .ok (.iadd, 1) := by decide +kernel
theorem dL_law_127 : decode cL_law 127 = .ok (.ifCond .eq 461, 3) := by decide +kernel
theorem dL_law_130 : decode cL_law 130 = .ok (.iconst 0, 1) := by decide +kernel
theorem dL_law_131 : decode cL_law 131 = .ok (.ireturn, 1) := by decide +kernel
theorem dL_law_132 : decode cL_law 132 = .ok (.iload 4, 2) := by decide +kernel
theorem dL_law_134 : decode cL_law 134 = .ok (.iconst 3, 1) := by decide +kernel
theorem dL_law_135 : decode cL_law 135 = .ok (.if_icmp .lt 8, 3) := by decide +kernel
theorem dL_law_138 : decode cL_law 138 = .ok (.iload 8, 2) := by decide +kernel
theorem dL_law_140 : decode cL_law 140 = .ok (.ifCond .ne 39, 3) := by decide +kernel
theorem dL_law_143 : decode cL_law 143 = .ok (.aload_n 1, 1) := by decide +kernel
theorem dL_law_144 : decode cL_law 144 = .ok (.iconst 0, 1) := by decide +kernel
theorem dL_law_145 : decode cL_law 145 = .ok (.iload 7, 2) := by decide +kernel
theorem dL_law_147 : decode cL_law 147 = .ok (.iconst 0, 1) := by decide +kernel
theorem dL_law_148 : decode cL_law 148 = .ok (.iconst 0, 1) := by decide +kernel
theorem dL_law_149 : decode cL_law 149 = .ok (.iconst 0, 1) := by decide +kernel
theorem dL_law_150 : decode cL_law 150 = .ok (.invokestatic 86, 3) := by decide +kernel
theorem dL_law_153 : decode cL_law 153 = .ok (.iload 8, 2) := by decide +kernel
theorem dL_law_155 : decode cL_law 155 = .ok (.bipush 120, 2) := by decide +kernel
theorem dL_law_157 : decode cL_law 157 = .ok (.if_icmp .ge 15, 3) := by decide +kernel
theorem dL_law_160 : decode cL_law 160 = .ok (.iload 9, 2) := by decide +kernel
theorem dL_law_162 : decode cL_law 162 = .ok (.bipush 30, 2) := by decide +kernel
theorem dL_law_164 : decode cL_law 164 = .ok (.if_icmp .ge 8, 3) := by decide +kernel
theorem dL_law_167 : decode cL_law 167 = .ok (.iload 8, 2) := by decide +kernel
theorem dL_law_169 : decode cL_law 169 = .ok (.goto 5, 3) := by decide +kernel
theorem dL_law_172 : decode cL_law 172 = .ok (.ldc 81, 2) := by decide +kernel
theorem dL_law_174 : decode cL_law 174 = .ok (.if_icmp .eq 414, 3) := by decide +kernel
theorem dL_law_177 : decode cL_law 177 = .ok (.iconst 0, 1) := by decide +kernel
theorem dL_law_178 : decode cL_law 178 = .ok (.ireturn, 1) := by decide +kernel
theorem dL_law_179 : decode cL_law 179 = .ok (.iload 4, 2) := by decide +kernel
theorem dL_law_181 : decode cL_law 181 = .ok (.bipush 7, 2) := by decide +kernel
theorem dL_law_183 : decode cL_law 183 = .ok (.if_icmp .ge 83, 3) := by decide +kernel
theorem dL_law_186 : decode cL_law 186 = .ok (.iload 6, 2) := by decide +kernel
theorem dL_law_188 : decode cL_law 188 = .ok (.iload 8, 2) := by decide +kernel
theorem dL_law_190 : decode cL_law 190 = .ok (.irem, 1) := by decide +kernel
theorem dL_law_191 : decode cL_law 191 = .ok (.istore 10, 2) := by decide +kernel
theorem dL_law_193 : decode cL_law 193 = .ok (.aload_n 1, 1) := by decide +kernel
theorem dL_law_194 : decode cL_law 194 = .ok (.iconst 1, 1) := by decide +kernel
theorem dL_law_195 : decode cL_law 195 = .ok (.iload 7, 2) := by decide +kernel
theorem dL_law_197 : decode cL_law 197 = .ok (.iload 5, 2) := by decide +kernel
theorem dL_law_199 : decode cL_law 199 = .ok (.iconst 4, 1) := by decide +kernel
theorem dL_law_200 : decode cL_law 200 = .ok (.idiv, 1) := by decide +kernel
theorem dL_law_201 : decode cL_law 201 = .ok (.iconst 4, 1) := by decide +kernel
theorem dL_law_202 : decode cL_law 202 = .ok (.irem, 1) := by decide +kernel
theorem dL_law_203 : decode cL_law 203 = .ok (.iload 10, 2) := by decide +kernel
theorem dL_law_205 : decode cL_law 205 = .ok (.iload 5, 2) := by decide +kernel
theorem dL_law_207 : decode cL_law 207 = .ok (.bipush 16, 2) := by decide +kernel
theorem dL_law_209 : decode cL_law 209 = .ok (.idiv, 1) := by decide +kernel
theorem dL_law_210 : decode cL_law 210 = .ok (.iload 8, 2) := by decide +kernel
theorem dL_law_212 : decode cL_law 212 = .ok (.irem, 1) := by decide +kernel
theorem dL_law_213 : decode cL_law 213 = .ok (.invokestatic 86, 3) := by decide +kernel
theorem dL_law_216 : decode cL_law 216 = .ok (.iload 8, 2) := by decide +kernel
theorem dL_law_218 : decode cL_law 218 = .ok (.bipush 120, 2) := by decide +kernel
theorem dL_law_220 : decode cL_law 220 = .ok (.if_icmp .ge 8, 3) := by decide +kernel
theorem dL_law_223 : decode cL_law 223 = .ok (.iload 8, 2) := by decide +kernel
theorem dL_law_225 : decode cL_law 225 = .ok (.goto 5, 3) := by decide +kernel
theorem dL_law_228 : decode cL_law 228 = .ok (.ldc 81, 2) := by decide +kernel
theorem dL_law_230 : decode cL_law 230 = .ok (.if_icmp .eq 5, 3) := by decide +kernel
theorem dL_law_233 : decode cL_law 233 = .ok (.iconst 0, 1) := by decide +kernel
theorem dL_law_234 : decode cL_law 234 = .ok (.ireturn, 1) := by decide +kernel
theorem dL_law_235 : decode cL_law 235 = .ok (.iload 8, 2) := by decide +kernel
theorem dL_law_237 : decode cL_law 237 = .ok (.bipush 120, 2) := by decide +kernel
theorem dL_law_239 : decode cL_law 239 = .ok (.if_icmp .ge 24, 3) := by decide +kernel
theorem dL_law_242 : decode cL_law 242 = .ok (.aload_n 1, 1) := by decide +kernel
theorem dL_law_243 : decode cL_law 243 = .ok (.iload 7, 2) := by decide +kernel
theorem dL_law_245 : decode cL_law 245 = .ok (.iload 8, 2) := by decide +kernel
theorem dL_law_247 : decode cL_law 247 = .ok (.invokevirtual 49, 3) := by decide +kernel
theorem dL_law_250 : decode cL_law 250 = .ok (.aload_n 1, 1) := by decide +kernel
theorem dL_law_251 : decode cL_law 251 = .ok (.iload 7, 2) := by decide +kernel
theorem dL_law_253 : decode cL_law 253 = .ok (.iload 10, 2) := by decide +kernel
theorem dL_law_255 : decode cL_law 255 = .ok (.invokevirtual 49, 3) := by decide +kernel
