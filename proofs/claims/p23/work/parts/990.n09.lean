theorem dL_glitch_21 : decode cL_glitch 21 = .ok (.aload_n 0, 1) := by decide +kernel
theorem dL_glitch_22 : decode cL_glitch 22 = .ok (.iconst 3, 1) := by decide +kernel
theorem dL_glitch_23 : decode cL_glitch 23 = .ok (.iconst 0, 1) := by decide +kernel
theorem dL_glitch_24 : decode cL_glitch 24 = .ok (.iconst 0, 1) := by decide +kernel
theorem dL_glitch_25 : decode cL_glitch 25 = .ok (.iconst 1, 1) := by decide +kernel
theorem dL_glitch_26 : decode cL_glitch 26 = .ok (.invokevirtual 13, 3) := by decide +kernel
theorem dL_glitch_29 : decode cL_glitch 29 = .ok (.iconst 2, 1) := by decide +kernel
theorem dL_glitch_30 : decode cL_glitch 30 = .ok (.if_icmp .ne 141, 3) := by decide +kernel
theorem dL_glitch_33 : decode cL_glitch 33 = .ok (.aload_n 0, 1) := by decide +kernel
theorem dL_glitch_34 : decode cL_glitch 34 = .ok (.iconst 3, 1) := by decide +kernel
theorem dL_glitch_35 : decode cL_glitch 35 = .ok (.iconst 2, 1) := by decide +kernel
theorem dL_glitch_36 : decode cL_glitch 36 = .ok (.invokevirtual 17, 3) := by decide +kernel
theorem dL_glitch_39 : decode cL_glitch 39 = .ok (.ifCond .ne 132, 3) := by decide +kernel
theorem dL_glitch_42 : decode cL_glitch 42 = .ok (.aload_n 0, 1) := by decide +kernel
theorem dL_glitch_43 : decode cL_glitch 43 = .ok (.iconst 3, 1) := by decide +kernel
theorem dL_glitch_44 : decode cL_glitch 44 = .ok (.iconst 2, 1) := by decide +kernel
theorem dL_glitch_45 : decode cL_glitch 45 = .ok (.invokevirtual 17, 3) := by decide +kernel
theorem dL_glitch_48 : decode cL_glitch 48 = .ok (.iconst 1, 1) := by decide +kernel
theorem dL_glitch_49 : decode cL_glitch 49 = .ok (.if_icmp .ne 122, 3) := by decide +kernel
theorem dL_glitch_52 : decode cL_glitch 52 = .ok (.aload_n 0, 1) := by decide +kernel
theorem dL_glitch_53 : decode cL_glitch 53 = .ok (.iconst 3, 1) := by decide +kernel
theorem dL_glitch_54 : decode cL_glitch 54 = .ok (.iconst 0, 1) := by decide +kernel
theorem dL_glitch_55 : decode cL_glitch 55 = .ok (.invokevirtual 17, 3) := by decide +kernel
theorem dL_glitch_58 : decode cL_glitch 58 = .ok (.iconst 2, 1) := by decide +kernel
theorem dL_glitch_59 : decode cL_glitch 59 = .ok (.if_icmp .ne 112, 3) := by decide +kernel
theorem dL_glitch_62 : decode cL_glitch 62 = .ok (.aload_n 0, 1) := by decide +kernel
theorem dL_glitch_63 : decode cL_glitch 63 = .ok (.iconst 3, 1) := by decide +kernel
theorem dL_glitch_64 : decode cL_glitch 64 = .ok (.iconst 5, 1) := by decide +kernel
theorem dL_glitch_65 : decode cL_glitch 65 = .ok (.invokevirtual 46, 3) := by decide +kernel
theorem dL_glitch_68 : decode cL_glitch 68 = .ok (.iconst 3, 1) := by decide +kernel
theorem dL_glitch_69 : decode cL_glitch 69 = .ok (.if_icmp .ne 102, 3) := by decide +kernel
theorem dL_glitch_72 : decode cL_glitch 72 = .ok (.aload_n 0, 1) := by decide +kernel
theorem dL_glitch_73 : decode cL_glitch 73 = .ok (.iconst 3, 1) := by decide +kernel
theorem dL_glitch_74 : decode cL_glitch 74 = .ok (.iconst 1, 1) := by decide +kernel
theorem dL_glitch_75 : decode cL_glitch 75 = .ok (.iconst 4, 1) := by decide +kernel
theorem dL_glitch_76 : decode cL_glitch 76 = .ok (.invokestatic 102, 3) := by decide +kernel
theorem dL_glitch_79 : decode cL_glitch 79 = .ok (.ifCond .eq 92, 3) := by decide +kernel
theorem dL_glitch_82 : decode cL_glitch 82 = .ok (.aload_n 0, 1) := by decide +kernel
theorem dL_glitch_83 : decode cL_glitch 83 = .ok (.iconst 3, 1) := by decide +kernel
theorem dL_glitch_84 : decode cL_glitch 84 = .ok (.iconst 0, 1) := by decide +kernel
theorem dL_glitch_85 : decode cL_glitch 85 = .ok (.iconst 0, 1) := by decide +kernel
theorem dL_glitch_86 : decode cL_glitch 86 = .ok (.invokestatic 102, 3) := by decide +kernel
theorem dL_glitch_89 : decode cL_glitch 89 = .ok (.ifCond .eq 82, 3) := by decide +kernel
theorem dL_glitch_92 : decode cL_glitch 92 = .ok (.aload_n 0, 1) := by decide +kernel
theorem dL_glitch_93 : decode cL_glitch 93 = .ok (.iconst 3, 1) := by decide +kernel
theorem dL_glitch_94 : decode cL_glitch 94 = .ok (.iconst 0, 1) := by decide +kernel
theorem dL_glitch_95 : decode cL_glitch 95 = .ok (.iconst 1, 1) := by decide +kernel
theorem dL_glitch_96 : decode cL_glitch 96 = .ok (.iconst 3, 1) := by decide +kernel
theorem dL_glitch_97 : decode cL_glitch 97 = .ok (.iconst 2, 1) := by decide +kernel
theorem dL_glitch_98 : decode cL_glitch 98 = .ok (.iconst 2, 1) := by decide +kernel
theorem dL_glitch_99 : decode cL_glitch 99 = .ok (.invokestatic 108, 3) := by decide +kernel
theorem dL_glitch_102 : decode cL_glitch 102 = .ok (.ifCond .eq 69, 3) := by decide +kernel
theorem dL_glitch_105 : decode cL_glitch 105 = .ok (.aload_n 0, 1) := by decide +kernel
theorem dL_glitch_106 : decode cL_glitch 106 = .ok (.iconst 3, 1) := by decide +kernel
theorem dL_glitch_107 : decode cL_glitch 107 = .ok (.iconst 1, 1) := by decide +kernel
theorem dL_glitch_108 : decode cL_glitch 108 = .ok (.iconst 0, 1) := by decide +kernel
theorem dL_glitch_109 : decode cL_glitch 109 = .ok (.iconst 1, 1) := by decide +kernel
theorem dL_glitch_110 : decode cL_glitch 110 = .ok (.iconst 1, 1) := by decide +kernel
theorem dL_glitch_111 : decode cL_glitch 111 = .ok (.iconst 0, 1) := by decide +kernel
theorem dL_glitch_112 : decode cL_glitch 112 = .ok (.invokestatic 108, 3) := by decide +kernel
theorem dL_glitch_115 : decode cL_glitch 115 = .ok (.ifCond .eq 56, 3) := by decide +kernel
theorem dL_glitch_118 : decode cL_glitch 118 = .ok (.aload_n 0, 1) := by decide +kernel
theorem dL_glitch_119 : decode cL_glitch 119 = .ok (.iconst 3, 1) := by decide +kernel
theorem dL_glitch_120 : decode cL_glitch 120 = .ok (.iconst 2, 1) := by decide +kernel
theorem dL_glitch_121 : decode cL_glitch 121 = .ok (.iconst 1, 1) := by decide +kernel
theorem dL_glitch_122 : decode cL_glitch 122 = .ok (.iconst 0, 1) := by decide +kernel
theorem dL_glitch_123 : decode cL_glitch 123 = .ok (.iconst (-1), 1) := by decide +kernel
theorem dL_glitch_124 : decode cL_glitch 124 = .ok (.iconst (-1), 1) := by decide +kernel
theorem dL_glitch_125 : decode cL_glitch 125 = .ok (.invokestatic 105, 3) := by decide +kernel
theorem dL_glitch_128 : decode cL_glitch 128 = .ok (.ifCond .eq 43, 3) := by decide +kernel
theorem dL_glitch_131 : decode cL_glitch 131 = .ok (.aload_n 0, 1) := by decide +kernel
theorem dL_glitch_132 : decode cL_glitch 132 = .ok (.bipush 16, 2) := by decide +kernel
theorem dL_glitch_134 : decode cL_glitch 134 = .ok (.iconst 3, 1) := by decide +kernel
theorem dL_glitch_135 : decode cL_glitch 135 = .ok (.iconst 0, 1) := by decide +kernel
theorem dL_glitch_136 : decode cL_glitch 136 = .ok (.iconst 0, 1) := by decide +kernel
theorem dL_glitch_137 : decode cL_glitch 137 = .ok (.iconst 0, 1) := by decide +kernel
theorem dL_glitch_138 : decode cL_glitch 138 = .ok (.invokestatic 86, 3) := by decide +kernel
theorem dL_glitch_141 : decode cL_glitch 141 = .ok (.ldc 81, 2) := by decide +kernel
theorem dL_glitch_143 : decode cL_glitch 143 = .ok (.if_icmp .ne 28, 3) := by decide +kernel
theorem dL_glitch_146 : decode cL_glitch 146 = .ok (.aload_n 0, 1) := by decide +kernel
theorem dL_glitch_147 : decode cL_glitch 147 = .ok (.bipush 17, 2) := by decide +kernel
theorem dL_glitch_149 : decode cL_glitch 149 = .ok (.iconst 3, 1) := by decide +kernel
theorem dL_glitch_150 : decode cL_glitch 150 = .ok (.iconst 0, 1) := by decide +kernel
theorem dL_glitch_151 : decode cL_glitch 151 = .ok (.iconst 5, 1) := by decide +kernel
theorem dL_glitch_152 : decode cL_glitch 152 = .ok (.iconst 0, 1) := by decide +kernel
theorem dL_glitch_153 : decode cL_glitch 153 = .ok (.invokestatic 86, 3) := by decide +kernel
theorem dL_glitch_156 : decode cL_glitch 156 = .ok (.ldc 81, 2) := by decide +kernel
theorem dL_glitch_158 : decode cL_glitch 158 = .ok (.if_icmp .ne 13, 3) := by decide +kernel
theorem dL_glitch_161 : decode cL_glitch 161 = .ok (.aload_n 0, 1) := by decide +kernel
theorem dL_glitch_162 : decode cL_glitch 162 = .ok (.iconst 3, 1) := by decide +kernel
theorem dL_glitch_163 : decode cL_glitch 163 = .ok (.iconst 3, 1) := by decide +kernel
theorem dL_glitch_164 : decode cL_glitch 164 = .ok (.invokevirtual 67, 3) := by decide +kernel
theorem dL_glitch_167 : decode cL_glitch 167 = .ok (.iconst (-1), 1) := by decide +kernel
theorem dL_glitch_168 : decode cL_glitch 168 = .ok (.if_icmp .eq 5, 3) := by decide +kernel
theorem dL_glitch_171 : decode cL_glitch 171 = .ok (.iconst 0, 1) := by decide +kernel
theorem dL_glitch_172 : decode cL_glitch 172 = .ok (.ireturn, 1) := by decide +kernel
theorem dL_glitch_173 : decode cL_glitch 173 = .ok (.aload_n 0, 1) := by decide +kernel
theorem dL_glitch_174 : decode cL_glitch 174 = .ok (.iconst 0, 1) := by decide +kernel
theorem dL_glitch_175 : decode cL_glitch 175 = .ok (.iconst 3, 1) := by decide +kernel
theorem dL_glitch_176 : decode cL_glitch 176 = .ok (.iconst 5, 1) := by decide +kernel
theorem dL_glitch_177 : decode cL_glitch 177 = .ok (.invokevirtual 31, 3) := by decide +kernel
theorem dL_glitch_180 : decode cL_glitch 180 = .ok (.iconst 1, 1) := by decide +kernel
theorem dL_glitch_181 : decode cL_glitch 181 = .ok (.if_icmp .ne 225, 3) := by decide +kernel
theorem dL_glitch_184 : decode cL_glitch 184 = .ok (.aload_n 0, 1) := by decide +kernel
theorem dL_glitch_185 : decode cL_glitch 185 = .ok (.iconst 3, 1) := by decide +kernel
theorem dL_glitch_186 : decode cL_glitch 186 = .ok (.iconst 3, 1) := by decide +kernel
theorem dL_glitch_187 : decode cL_glitch 187 = .ok (.iconst 1, 1) := by decide +kernel
theorem dL_glitch_188 : decode cL_glitch 188 = .ok (.iconst 3, 1) := by decide +kernel
theorem dL_glitch_189 : decode cL_glitch 189 = .ok (.bipush 6, 2) := by decide +kernel
theorem dL_glitch_191 : decode cL_glitch 191 = .ok (.iconst 4, 1) := by decide +kernel
theorem dL_glitch_192 : decode cL_glitch 192 = .ok (.iconst 0, 1) := by decide +kernel
theorem dL_glitch_193 : decode cL_glitch 193 = .ok (.invokestatic 97, 3) := by decide +kernel
theorem dL_glitch_196 : decode cL_glitch 196 = .ok (.ifCond .eq 210, 3) := by decide +kernel
theorem dL_glitch_199 : decode cL_glitch 199 = .ok (.aload_n 0, 1) := by decide +kernel
theorem dL_glitch_200 : decode cL_glitch 200 = .ok (.iconst 3, 1) := by decide +kernel
theorem dL_glitch_201 : decode cL_glitch 201 = .ok (.iconst 2, 1) := by decide +kernel
theorem dL_glitch_202 : decode cL_glitch 202 = .ok (.invokevirtual 49, 3) := by decide +kernel
theorem dL_glitch_205 : decode cL_glitch 205 = .ok (.iconst 4, 1) := by decide +kernel
theorem dL_glitch_206 : decode cL_glitch 206 = .ok (.if_icmp .ne 200, 3) := by decide +kernel
theorem dL_glitch_209 : decode cL_glitch 209 = .ok (.aload_n 0, 1) := by decide +kernel
theorem dL_glitch_210 : decode cL_glitch 210 = .ok (.iconst 3, 1) := by decide +kernel
theorem dL_glitch_211 : decode cL_glitch 211 = .ok (.iconst 0, 1) := by decide +kernel
theorem dL_glitch_212 : decode cL_glitch 212 = .ok (.iconst 1, 1) := by decide +kernel
theorem dL_glitch_213 : decode cL_glitch 213 = .ok (.iconst 3, 1) := by decide +kernel
theorem dL_glitch_214 : decode cL_glitch 214 = .ok (.iconst 4, 1) := by decide +kernel
theorem dL_glitch_215 : decode cL_glitch 215 = .ok (.iconst 2, 1) := by decide +kernel
theorem dL_glitch_216 : decode cL_glitch 216 = .ok (.invokestatic 108, 3) := by decide +kernel
theorem dL_glitch_219 : decode cL_glitch 219 = .ok (.ifCond .eq 187, 3) := by decide +kernel
theorem dL_glitch_222 : decode cL_glitch 222 = .ok (.aload_n 0, 1) := by decide +kernel
theorem dL_glitch_223 : decode cL_glitch 223 = .ok (.iconst 3, 1) := by decide +kernel
theorem dL_glitch_224 : decode cL_glitch 224 = .ok (.iconst 1, 1) := by decide +kernel
theorem dL_glitch_225 : decode cL_glitch 225 = .ok (.iconst 1, 1) := by decide +kernel
theorem dL_glitch_226 : decode cL_glitch 226 = .ok (.invokevirtual 34, 3) := by decide +kernel
theorem dL_glitch_229 : decode cL_glitch 229 = .ok (.iconst (-1), 1) := by decide +kernel
theorem dL_glitch_230 : decode cL_glitch 230 = .ok (.if_icmp .ne 176, 3) := by decide +kernel
theorem dL_glitch_233 : decode cL_glitch 233 = .ok (.aload_n 0, 1) := by decide +kernel
theorem dL_glitch_234 : decode cL_glitch 234 = .ok (.iconst 3, 1) := by decide +kernel
theorem dL_glitch_235 : decode cL_glitch 235 = .ok (.iconst 0, 1) := by decide +kernel
theorem dL_glitch_236 : decode cL_glitch 236 = .ok (.iconst 1, 1) := by decide +kernel
theorem dL_glitch_237 : decode cL_glitch 237 = .ok (.iconst 1, 1) := by decide +kernel
theorem dL_glitch_238 : decode cL_glitch 238 = .ok (.iconst 3, 1) := by decide +kernel
theorem dL_glitch_239 : decode cL_glitch 239 = .ok (.iconst 1, 1) := by decide +kernel
theorem dL_glitch_240 : decode cL_glitch 240 = .ok (.invokestatic 108, 3) := by decide +kernel
theorem dL_glitch_243 : decode cL_glitch 243 = .ok (.ifCond .eq 163, 3) := by decide +kernel
theorem dL_glitch_246 : decode cL_glitch 246 = .ok (.aload_n 0, 1) := by decide +kernel
theorem dL_glitch_247 : decode cL_glitch 247 = .ok (.iconst 3, 1) := by decide +kernel
theorem dL_glitch_248 : decode cL_glitch 248 = .ok (.iconst 1, 1) := by decide +kernel
theorem dL_glitch_249 : decode cL_glitch 249 = .ok (.bipush 7, 2) := by decide +kernel
theorem dL_glitch_251 : decode cL_glitch 251 = .ok (.invokestatic 102, 3) := by decide +kernel
theorem dL_glitch_254 : decode cL_glitch 254 = .ok (.ifCond .eq 152, 3) := by decide +kernel
theorem dL_glitch_257 : decode cL_glitch 257 = .ok (.aload_n 0, 1) := by decide +kernel
theorem dL_glitch_258 : decode cL_glitch 258 = .ok (.iconst 3, 1) := by decide +kernel
theorem dL_glitch_259 : decode cL_glitch 259 = .ok (.iconst 1, 1) := by decide +kernel
theorem dL_glitch_260 : decode cL_glitch 260 = .ok (.iconst (-1), 1) := by decide +kernel
theorem dL_glitch_261 : decode cL_glitch 261 = .ok (.invokevirtual 34, 3) := by decide +kernel
theorem dL_glitch_264 : decode cL_glitch 264 = .ok (.iconst 1, 1) := by decide +kernel
theorem dL_glitch_265 : decode cL_glitch 265 = .ok (.if_icmp .ne 141, 3) := by decide +kernel
theorem dL_glitch_268 : decode cL_glitch 268 = .ok (.aload_n 0, 1) := by decide +kernel
theorem dL_glitch_269 : decode cL_glitch 269 = .ok (.iconst 0, 1) := by decide +kernel
theorem dL_glitch_270 : decode cL_glitch 270 = .ok (.bipush 9, 2) := by decide +kernel
theorem dL_glitch_272 : decode cL_glitch 272 = .ok (.iconst 0, 1) := by decide +kernel
theorem dL_glitch_273 : decode cL_glitch 273 = .ok (.invokevirtual 31, 3) := by decide +kernel
theorem dL_glitch_276 : decode cL_glitch 276 = .ok (.iconst 3, 1) := by decide +kernel
theorem dL_glitch_277 : decode cL_glitch 277 = .ok (.if_icmp .ne 129, 3) := by decide +kernel
theorem dL_glitch_280 : decode cL_glitch 280 = .ok (.aload_n 0, 1) := by decide +kernel
theorem dL_glitch_281 : decode cL_glitch 281 = .ok (.iconst 3, 1) := by decide +kernel
theorem dL_glitch_282 : decode cL_glitch 282 = .ok (.iconst 0, 1) := by decide +kernel
theorem dL_glitch_283 : decode cL_glitch 283 = .ok (.iconst 1, 1) := by decide +kernel
theorem dL_glitch_284 : decode cL_glitch 284 = .ok (.iconst 3, 1) := by decide +kernel
theorem dL_glitch_285 : decode cL_glitch 285 = .ok (.bipush 10, 2) := by decide +kernel
theorem dL_glitch_287 : decode cL_glitch 287 = .ok (.iconst 2, 1) := by decide +kernel
theorem dL_glitch_288 : decode cL_glitch 288 = .ok (.invokestatic 108, 3) := by decide +kernel
theorem dL_glitch_291 : decode cL_glitch 291 = .ok (.ifCond .eq 115, 3) := by decide +kernel
theorem dL_glitch_294 : decode cL_glitch 294 = .ok (.aload_n 0, 1) := by decide +kernel
theorem dL_glitch_295 : decode cL_glitch 295 = .ok (.iconst 3, 1) := by decide +kernel
theorem dL_glitch_296 : decode cL_glitch 296 = .ok (.iconst 3, 1) := by decide +kernel
theorem dL_glitch_297 : decode cL_glitch 297 = .ok (.invokevirtual 46, 3) := by decide +kernel
theorem dL_glitch_300 : decode cL_glitch 300 = .ok (.iconst 1, 1) := by decide +kernel
theorem dL_glitch_301 : decode cL_glitch 301 = .ok (.if_icmp .ne 105, 3) := by decide +kernel
theorem dL_glitch_304 : decode cL_glitch 304 = .ok (.aload_n 0, 1) := by decide +kernel
theorem dL_glitch_305 : decode cL_glitch 305 = .ok (.iconst 0, 1) := by decide +kernel
theorem dL_glitch_306 : decode cL_glitch 306 = .ok (.iconst 1, 1) := by decide +kernel
theorem dL_glitch_307 : decode cL_glitch 307 = .ok (.iconst 1, 1) := by decide +kernel
theorem dL_glitch_308 : decode cL_glitch 308 = .ok (.invokevirtual 31, 3) := by decide +kernel
theorem dL_glitch_311 : decode cL_glitch 311 = .ok (.bipush 9, 2) := by decide +kernel
theorem dL_glitch_313 : decode cL_glitch 313 = .ok (.if_icmp .ne 93, 3) := by decide +kernel
theorem dL_glitch_316 : decode cL_glitch 316 = .ok (.aload_n 0, 1) := by decide +kernel
theorem dL_glitch_317 : decode cL_glitch 317 = .ok (.iconst 3, 1) := by decide +kernel
theorem dL_glitch_318 : decode cL_glitch 318 = .ok (.iconst 1, 1) := by decide +kernel
theorem dL_glitch_319 : decode cL_glitch 319 = .ok (.iconst 1, 1) := by decide +kernel
theorem dL_glitch_320 : decode cL_glitch 320 = .ok (.invokevirtual 31, 3) := by decide +kernel
theorem dL_glitch_323 : decode cL_glitch 323 = .ok (.iconst 1, 1) := by decide +kernel
theorem dL_glitch_324 : decode cL_glitch 324 = .ok (.if_icmp .ne 82, 3) := by decide +kernel
theorem dL_glitch_327 : decode cL_glitch 327 = .ok (.aload_n 0, 1) := by decide +kernel
theorem dL_glitch_328 : decode cL_glitch 328 = .ok (.iconst 3, 1) := by decide +kernel
theorem dL_glitch_329 : decode cL_glitch 329 = .ok (.iconst 1, 1) := by decide +kernel
theorem dL_glitch_330 : decode cL_glitch 330 = .ok (.iconst 1, 1) := by decide +kernel
theorem dL_glitch_331 : decode cL_glitch 331 = .ok (.iconst 1, 1) := by decide +kernel
theorem dL_glitch_332 : decode cL_glitch 332 = .ok (.invokevirtual 13, 3) := by decide +kernel
theorem dL_glitch_335 : decode cL_glitch 335 = .ok (.iconst 3, 1) := by decide +kernel
theorem dL_glitch_336 : decode cL_glitch 336 = .ok (.if_icmp .ne 70, 3) := by decide +kernel
theorem dL_glitch_339 : decode cL_glitch 339 = .ok (.aload_n 0, 1) := by decide +kernel
theorem dL_glitch_340 : decode cL_glitch 340 = .ok (.iconst 3, 1) := by decide +kernel
theorem dL_glitch_341 : decode cL_glitch 341 = .ok (.iconst 2, 1) := by decide +kernel
theorem dL_glitch_342 : decode cL_glitch 342 = .ok (.iconst 3, 1) := by decide +kernel
theorem dL_glitch_343 : decode cL_glitch 343 = .ok (.iconst 3, 1) := by decide +kernel
theorem dL_glitch_344 : decode cL_glitch 344 = .ok (.invokevirtual 13, 3) := by decide +kernel
theorem dL_glitch_347 : decode cL_glitch 347 = .ok (.iconst 4, 1) := by decide +kernel
theorem dL_glitch_348 : decode cL_glitch 348 = .ok (.if_icmp .ne 58, 3) := by decide +kernel
theorem dL_glitch_351 : decode cL_glitch 351 = .ok (.aload_n 0, 1) := by decide +kernel
theorem dL_glitch_352 : decode cL_glitch 352 = .ok (.iconst 3, 1) := by decide +kernel
theorem dL_glitch_353 : decode cL_glitch 353 = .ok (.bipush 6, 2) := by decide +kernel
theorem dL_glitch_355 : decode cL_glitch 355 = .ok (.invokevirtual 46, 3) := by decide +kernel
theorem dL_glitch_358 : decode cL_glitch 358 = .ok (.iconst 2, 1) := by decide +kernel
theorem dL_glitch_359 : decode cL_glitch 359 = .ok (.if_icmp .ne 47, 3) := by decide +kernel
theorem dL_glitch_362 : decode cL_glitch 362 = .ok (.aload_n 0, 1) := by decide +kernel
theorem dL_glitch_363 : decode cL_glitch 363 = .ok (.iconst 3, 1) := by decide +kernel
theorem dL_glitch_364 : decode cL_glitch 364 = .ok (.iconst 3, 1) := by decide +kernel
theorem dL_glitch_365 : decode cL_glitch 365 = .ok (.iconst 0, 1) := by decide +kernel
theorem dL_glitch_366 : decode cL_glitch 366 = .ok (.invokevirtual 37, 3) := by decide +kernel
theorem dL_glitch_369 : decode cL_glitch 369 = .ok (.iconst 1, 1) := by decide +kernel
theorem dL_glitch_370 : decode cL_glitch 370 = .ok (.if_icmp .ne 36, 3) := by decide +kernel
theorem dL_glitch_373 : decode cL_glitch 373 = .ok (.aload_n 0, 1) := by decide +kernel
theorem dL_glitch_374 : decode cL_glitch 374 = .ok (.iconst 3, 1) := by decide +kernel
theorem dL_glitch_375 : decode cL_glitch 375 = .ok (.iconst 4, 1) := by decide +kernel
theorem dL_glitch_376 : decode cL_glitch 376 = .ok (.iconst 0, 1) := by decide +kernel
theorem dL_glitch_377 : decode cL_glitch 377 = .ok (.invokevirtual 37, 3) := by decide +kernel
theorem dL_glitch_380 : decode cL_glitch 380 = .ok (.ifCond .ne 26, 3) := by decide +kernel
theorem dL_glitch_383 : decode cL_glitch 383 = .ok (.aload_n 0, 1) := by decide +kernel
theorem dL_glitch_384 : decode cL_glitch 384 = .ok (.iconst 3, 1) := by decide +kernel
