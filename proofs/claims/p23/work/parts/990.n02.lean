theorem dL_refuses_85 : decode cL_refuses 85 = .ok (.iconst 1, 1) := by decide +kernel
theorem dL_refuses_86 : decode cL_refuses 86 = .ok (.if_icmp .ne 8, 3) := by decide +kernel
theorem dL_refuses_89 : decode cL_refuses 89 = .ok (.ldc 85, 2) := by decide +kernel
theorem dL_refuses_91 : decode cL_refuses 91 = .ok (.goto 5, 3) := by decide +kernel
theorem dL_refuses_94 : decode cL_refuses 94 = .ok (.iload 4, 2) := by decide +kernel
theorem dL_refuses_96 : decode cL_refuses 96 = .ok (.istore 6, 2) := by decide +kernel
theorem dL_refuses_98 : decode cL_refuses 98 = .ok (.iload_n 3, 1) := by decide +kernel
theorem dL_refuses_99 : decode cL_refuses 99 = .ok (.iconst 2, 1) := by decide +kernel
theorem dL_refuses_100 : decode cL_refuses 100 = .ok (.if_icmp .ne 7, 3) := by decide +kernel
theorem dL_refuses_103 : decode cL_refuses 103 = .ok (.iconst (-1), 1) := by decide +kernel
theorem dL_refuses_104 : decode cL_refuses 104 = .ok (.goto 17, 3) := by decide +kernel
theorem dL_refuses_107 : decode cL_refuses 107 = .ok (.iload_n 3, 1) := by decide +kernel
theorem dL_refuses_108 : decode cL_refuses 108 = .ok (.iconst 1, 1) := by decide +kernel
theorem dL_refuses_109 : decode cL_refuses 109 = .ok (.if_icmp .ne 8, 3) := by decide +kernel
theorem dL_refuses_112 : decode cL_refuses 112 = .ok (.bipush (-2), 2) := by decide +kernel
theorem dL_refuses_114 : decode cL_refuses 114 = .ok (.goto 7, 3) := by decide +kernel
theorem dL_refuses_117 : decode cL_refuses 117 = .ok (.iload_n 1, 1) := by decide +kernel
theorem dL_refuses_118 : decode cL_refuses 118 = .ok (.ineg, 1) := by decide +kernel
theorem dL_refuses_119 : decode cL_refuses 119 = .ok (.iconst 1, 1) := by decide +kernel
theorem dL_refuses_120 : decode cL_refuses 120 = .ok (.isub, 1) := by decide +kernel
theorem dL_refuses_121 : decode cL_refuses 121 = .ok (.istore 7, 2) := by decide +kernel
theorem dL_refuses_123 : decode cL_refuses 123 = .ok (.aload_n 0, 1) := by decide +kernel
theorem dL_refuses_124 : decode cL_refuses 124 = .ok (.iconst 0, 1) := by decide +kernel
theorem dL_refuses_125 : decode cL_refuses 125 = .ok (.iload 5, 2) := by decide +kernel
theorem dL_refuses_127 : decode cL_refuses 127 = .ok (.iconst 0, 1) := by decide +kernel
theorem dL_refuses_128 : decode cL_refuses 128 = .ok (.iconst 0, 1) := by decide +kernel
theorem dL_refuses_129 : decode cL_refuses 129 = .ok (.iconst 0, 1) := by decide +kernel
theorem dL_refuses_130 : decode cL_refuses 130 = .ok (.invokestatic 86, 3) := by decide +kernel
theorem dL_refuses_133 : decode cL_refuses 133 = .ok (.ldc 75, 2) := by decide +kernel
theorem dL_refuses_135 : decode cL_refuses 135 = .ok (.if_icmp .ne 454, 3) := by decide +kernel
theorem dL_refuses_138 : decode cL_refuses 138 = .ok (.aload_n 0, 1) := by decide +kernel
theorem dL_refuses_139 : decode cL_refuses 139 = .ok (.iconst 1, 1) := by decide +kernel
theorem dL_refuses_140 : decode cL_refuses 140 = .ok (.iload 5, 2) := by decide +kernel
theorem dL_refuses_142 : decode cL_refuses 142 = .ok (.iconst 0, 1) := by decide +kernel
theorem dL_refuses_143 : decode cL_refuses 143 = .ok (.iconst 0, 1) := by decide +kernel
theorem dL_refuses_144 : decode cL_refuses 144 = .ok (.iconst 0, 1) := by decide +kernel
theorem dL_refuses_145 : decode cL_refuses 145 = .ok (.invokestatic 86, 3) := by decide +kernel
theorem dL_refuses_148 : decode cL_refuses 148 = .ok (.ldc 75, 2) := by decide +kernel
theorem dL_refuses_150 : decode cL_refuses 150 = .ok (.if_icmp .ne 439, 3) := by decide +kernel
theorem dL_refuses_153 : decode cL_refuses 153 = .ok (.aload_n 0, 1) := by decide +kernel
theorem dL_refuses_154 : decode cL_refuses 154 = .ok (.iconst 1, 1) := by decide +kernel
theorem dL_refuses_155 : decode cL_refuses 155 = .ok (.iconst 0, 1) := by decide +kernel
theorem dL_refuses_156 : decode cL_refuses 156 = .ok (.iload 5, 2) := by decide +kernel
theorem dL_refuses_158 : decode cL_refuses 158 = .ok (.iconst 0, 1) := by decide +kernel
theorem dL_refuses_159 : decode cL_refuses 159 = .ok (.iconst 0, 1) := by decide +kernel
theorem dL_refuses_160 : decode cL_refuses 160 = .ok (.invokestatic 86, 3) := by decide +kernel
theorem dL_refuses_163 : decode cL_refuses 163 = .ok (.ldc 75, 2) := by decide +kernel
theorem dL_refuses_165 : decode cL_refuses 165 = .ok (.if_icmp .ne 424, 3) := by decide +kernel
theorem dL_refuses_168 : decode cL_refuses 168 = .ok (.aload_n 0, 1) := by decide +kernel
theorem dL_refuses_169 : decode cL_refuses 169 = .ok (.iconst 2, 1) := by decide +kernel
theorem dL_refuses_170 : decode cL_refuses 170 = .ok (.iload 5, 2) := by decide +kernel
theorem dL_refuses_172 : decode cL_refuses 172 = .ok (.iconst 0, 1) := by decide +kernel
theorem dL_refuses_173 : decode cL_refuses 173 = .ok (.iconst 0, 1) := by decide +kernel
theorem dL_refuses_174 : decode cL_refuses 174 = .ok (.iconst 0, 1) := by decide +kernel
theorem dL_refuses_175 : decode cL_refuses 175 = .ok (.invokestatic 86, 3) := by decide +kernel
theorem dL_refuses_178 : decode cL_refuses 178 = .ok (.ldc 75, 2) := by decide +kernel
theorem dL_refuses_180 : decode cL_refuses 180 = .ok (.if_icmp .ne 409, 3) := by decide +kernel
theorem dL_refuses_183 : decode cL_refuses 183 = .ok (.aload_n 0, 1) := by decide +kernel
theorem dL_refuses_184 : decode cL_refuses 184 = .ok (.iconst 3, 1) := by decide +kernel
theorem dL_refuses_185 : decode cL_refuses 185 = .ok (.iload 5, 2) := by decide +kernel
theorem dL_refuses_187 : decode cL_refuses 187 = .ok (.bipush 9, 2) := by decide +kernel
theorem dL_refuses_189 : decode cL_refuses 189 = .ok (.bipush 9, 2) := by decide +kernel
theorem dL_refuses_191 : decode cL_refuses 191 = .ok (.iconst 0, 1) := by decide +kernel
theorem dL_refuses_192 : decode cL_refuses 192 = .ok (.invokestatic 86, 3) := by decide +kernel
theorem dL_refuses_195 : decode cL_refuses 195 = .ok (.ldc 75, 2) := by decide +kernel
theorem dL_refuses_197 : decode cL_refuses 197 = .ok (.if_icmp .ne 392, 3) := by decide +kernel
theorem dL_refuses_200 : decode cL_refuses 200 = .ok (.aload_n 0, 1) := by decide +kernel
theorem dL_refuses_201 : decode cL_refuses 201 = .ok (.iconst 3, 1) := by decide +kernel
theorem dL_refuses_202 : decode cL_refuses 202 = .ok (.iconst 0, 1) := by decide +kernel
theorem dL_refuses_203 : decode cL_refuses 203 = .ok (.iload_n 3, 1) := by decide +kernel
theorem dL_refuses_204 : decode cL_refuses 204 = .ok (.iconst 1, 1) := by decide +kernel
theorem dL_refuses_205 : decode cL_refuses 205 = .ok (.if_icmp .ne 7, 3) := by decide +kernel
theorem dL_refuses_208 : decode cL_refuses 208 = .ok (.iconst 3, 1) := by decide +kernel
theorem dL_refuses_209 : decode cL_refuses 209 = .ok (.goto 5, 3) := by decide +kernel
theorem dL_refuses_212 : decode cL_refuses 212 = .ok (.iload 4, 2) := by decide +kernel
theorem dL_refuses_214 : decode cL_refuses 214 = .ok (.iconst 1, 1) := by decide +kernel
theorem dL_refuses_215 : decode cL_refuses 215 = .ok (.iconst 0, 1) := by decide +kernel
theorem dL_refuses_216 : decode cL_refuses 216 = .ok (.invokestatic 86, 3) := by decide +kernel
theorem dL_refuses_219 : decode cL_refuses 219 = .ok (.ldc 78, 2) := by decide +kernel
theorem dL_refuses_221 : decode cL_refuses 221 = .ok (.if_icmp .ne 368, 3) := by decide +kernel
theorem dL_refuses_224 : decode cL_refuses 224 = .ok (.aload_n 0, 1) := by decide +kernel
theorem dL_refuses_225 : decode cL_refuses 225 = .ok (.iconst 3, 1) := by decide +kernel
theorem dL_refuses_226 : decode cL_refuses 226 = .ok (.iconst 0, 1) := by decide +kernel
theorem dL_refuses_227 : decode cL_refuses 227 = .ok (.iconst 0, 1) := by decide +kernel
theorem dL_refuses_228 : decode cL_refuses 228 = .ok (.iload_n 3, 1) := by decide +kernel
theorem dL_refuses_229 : decode cL_refuses 229 = .ok (.ifCond .ne 7, 3) := by decide +kernel
theorem dL_refuses_232 : decode cL_refuses 232 = .ok (.iconst 0, 1) := by decide +kernel
theorem dL_refuses_233 : decode cL_refuses 233 = .ok (.goto 15, 3) := by decide +kernel
theorem dL_refuses_236 : decode cL_refuses 236 = .ok (.iload_n 3, 1) := by decide +kernel
theorem dL_refuses_237 : decode cL_refuses 237 = .ok (.iconst 1, 1) := by decide +kernel
theorem dL_refuses_238 : decode cL_refuses 238 = .ok (.if_icmp .ne 8, 3) := by decide +kernel
theorem dL_refuses_241 : decode cL_refuses 241 = .ok (.bipush 7, 2) := by decide +kernel
theorem dL_refuses_243 : decode cL_refuses 243 = .ok (.goto 5, 3) := by decide +kernel
theorem dL_refuses_246 : decode cL_refuses 246 = .ok (.iload 4, 2) := by decide +kernel
theorem dL_refuses_248 : decode cL_refuses 248 = .ok (.iconst 0, 1) := by decide +kernel
theorem dL_refuses_249 : decode cL_refuses 249 = .ok (.invokestatic 86, 3) := by decide +kernel
theorem dL_refuses_252 : decode cL_refuses 252 = .ok (.ldc 78, 2) := by decide +kernel
theorem dL_refuses_254 : decode cL_refuses 254 = .ok (.if_icmp .ne 335, 3) := by decide +kernel
theorem dL_refuses_257 : decode cL_refuses 257 = .ok (.aload_n 0, 1) := by decide +kernel
theorem dL_refuses_258 : decode cL_refuses 258 = .ok (.iconst 4, 1) := by decide +kernel
theorem dL_refuses_259 : decode cL_refuses 259 = .ok (.iload 5, 2) := by decide +kernel
theorem dL_refuses_261 : decode cL_refuses 261 = .ok (.bipush 9, 2) := by decide +kernel
theorem dL_refuses_263 : decode cL_refuses 263 = .ok (.iconst 0, 1) := by decide +kernel
theorem dL_refuses_264 : decode cL_refuses 264 = .ok (.iconst 0, 1) := by decide +kernel
theorem dL_refuses_265 : decode cL_refuses 265 = .ok (.invokestatic 86, 3) := by decide +kernel
theorem dL_refuses_268 : decode cL_refuses 268 = .ok (.ldc 75, 2) := by decide +kernel
theorem dL_refuses_270 : decode cL_refuses 270 = .ok (.if_icmp .ne 319, 3) := by decide +kernel
theorem dL_refuses_273 : decode cL_refuses 273 = .ok (.aload_n 0, 1) := by decide +kernel
theorem dL_refuses_274 : decode cL_refuses 274 = .ok (.iconst 4, 1) := by decide +kernel
theorem dL_refuses_275 : decode cL_refuses 275 = .ok (.iconst 0, 1) := by decide +kernel
theorem dL_refuses_276 : decode cL_refuses 276 = .ok (.iload_n 3, 1) := by decide +kernel
theorem dL_refuses_277 : decode cL_refuses 277 = .ok (.ifCond .ne 7, 3) := by decide +kernel
theorem dL_refuses_280 : decode cL_refuses 280 = .ok (.iconst 0, 1) := by decide +kernel
theorem dL_refuses_281 : decode cL_refuses 281 = .ok (.goto 14, 3) := by decide +kernel
theorem dL_refuses_284 : decode cL_refuses 284 = .ok (.iload_n 3, 1) := by decide +kernel
theorem dL_refuses_285 : decode cL_refuses 285 = .ok (.iconst 1, 1) := by decide +kernel
theorem dL_refuses_286 : decode cL_refuses 286 = .ok (.if_icmp .ne 7, 3) := by decide +kernel
theorem dL_refuses_289 : decode cL_refuses 289 = .ok (.iconst 5, 1) := by decide +kernel
theorem dL_refuses_290 : decode cL_refuses 290 = .ok (.goto 5, 3) := by decide +kernel
theorem dL_refuses_293 : decode cL_refuses 293 = .ok (.iload 4, 2) := by decide +kernel
theorem dL_refuses_295 : decode cL_refuses 295 = .ok (.iconst 0, 1) := by decide +kernel
theorem dL_refuses_296 : decode cL_refuses 296 = .ok (.iconst 0, 1) := by decide +kernel
theorem dL_refuses_297 : decode cL_refuses 297 = .ok (.invokestatic 86, 3) := by decide +kernel
theorem dL_refuses_300 : decode cL_refuses 300 = .ok (.ldc 78, 2) := by decide +kernel
theorem dL_refuses_302 : decode cL_refuses 302 = .ok (.if_icmp .ne 287, 3) := by decide +kernel
theorem dL_refuses_305 : decode cL_refuses 305 = .ok (.aload_n 0, 1) := by decide +kernel
theorem dL_refuses_306 : decode cL_refuses 306 = .ok (.iconst 5, 1) := by decide +kernel
theorem dL_refuses_307 : decode cL_refuses 307 = .ok (.iload 5, 2) := by decide +kernel
theorem dL_refuses_309 : decode cL_refuses 309 = .ok (.iconst 0, 1) := by decide +kernel
theorem dL_refuses_310 : decode cL_refuses 310 = .ok (.iconst 0, 1) := by decide +kernel
theorem dL_refuses_311 : decode cL_refuses 311 = .ok (.iconst 0, 1) := by decide +kernel
theorem dL_refuses_312 : decode cL_refuses 312 = .ok (.invokestatic 86, 3) := by decide +kernel
theorem dL_refuses_315 : decode cL_refuses 315 = .ok (.ldc 75, 2) := by decide +kernel
theorem dL_refuses_317 : decode cL_refuses 317 = .ok (.if_icmp .ne 272, 3) := by decide +kernel
theorem dL_refuses_320 : decode cL_refuses 320 = .ok (.aload_n 0, 1) := by decide +kernel
theorem dL_refuses_321 : decode cL_refuses 321 = .ok (.bipush 6, 2) := by decide +kernel
theorem dL_refuses_323 : decode cL_refuses 323 = .ok (.iload 5, 2) := by decide +kernel
theorem dL_refuses_325 : decode cL_refuses 325 = .ok (.iconst 0, 1) := by decide +kernel
theorem dL_refuses_326 : decode cL_refuses 326 = .ok (.bipush 100, 2) := by decide +kernel
theorem dL_refuses_328 : decode cL_refuses 328 = .ok (.iconst 0, 1) := by decide +kernel
theorem dL_refuses_329 : decode cL_refuses 329 = .ok (.invokestatic 86, 3) := by decide +kernel
theorem dL_refuses_332 : decode cL_refuses 332 = .ok (.ldc 75, 2) := by decide +kernel
theorem dL_refuses_334 : decode cL_refuses 334 = .ok (.if_icmp .ne 255, 3) := by decide +kernel
theorem dL_refuses_337 : decode cL_refuses 337 = .ok (.aload_n 0, 1) := by decide +kernel
theorem dL_refuses_338 : decode cL_refuses 338 = .ok (.bipush 6, 2) := by decide +kernel
theorem dL_refuses_340 : decode cL_refuses 340 = .ok (.iconst 0, 1) := by decide +kernel
theorem dL_refuses_341 : decode cL_refuses 341 = .ok (.iload_n 3, 1) := by decide +kernel
theorem dL_refuses_342 : decode cL_refuses 342 = .ok (.ifCond .ne 7, 3) := by decide +kernel
theorem dL_refuses_345 : decode cL_refuses 345 = .ok (.iconst 0, 1) := by decide +kernel
theorem dL_refuses_346 : decode cL_refuses 346 = .ok (.goto 15, 3) := by decide +kernel
theorem dL_refuses_349 : decode cL_refuses 349 = .ok (.iload_n 3, 1) := by decide +kernel
theorem dL_refuses_350 : decode cL_refuses 350 = .ok (.iconst 1, 1) := by decide +kernel
theorem dL_refuses_351 : decode cL_refuses 351 = .ok (.if_icmp .ne 8, 3) := by decide +kernel
theorem dL_refuses_354 : decode cL_refuses 354 = .ok (.bipush 10, 2) := by decide +kernel
theorem dL_refuses_356 : decode cL_refuses 356 = .ok (.goto 5, 3) := by decide +kernel
theorem dL_refuses_359 : decode cL_refuses 359 = .ok (.iload 4, 2) := by decide +kernel
theorem dL_refuses_361 : decode cL_refuses 361 = .ok (.iconst 1, 1) := by decide +kernel
theorem dL_refuses_362 : decode cL_refuses 362 = .ok (.iconst 0, 1) := by decide +kernel
theorem dL_refuses_363 : decode cL_refuses 363 = .ok (.invokestatic 86, 3) := by decide +kernel
theorem dL_refuses_366 : decode cL_refuses 366 = .ok (.ldc 78, 2) := by decide +kernel
theorem dL_refuses_368 : decode cL_refuses 368 = .ok (.if_icmp .ne 221, 3) := by decide +kernel
theorem dL_refuses_371 : decode cL_refuses 371 = .ok (.aload_n 0, 1) := by decide +kernel
theorem dL_refuses_372 : decode cL_refuses 372 = .ok (.bipush 6, 2) := by decide +kernel
theorem dL_refuses_374 : decode cL_refuses 374 = .ok (.iconst 0, 1) := by decide +kernel
theorem dL_refuses_375 : decode cL_refuses 375 = .ok (.iconst 1, 1) := by decide +kernel
theorem dL_refuses_376 : decode cL_refuses 376 = .ok (.iload_n 3, 1) := by decide +kernel
theorem dL_refuses_377 : decode cL_refuses 377 = .ok (.iconst 1, 1) := by decide +kernel
theorem dL_refuses_378 : decode cL_refuses 378 = .ok (.if_icmp .ne 8, 3) := by decide +kernel
theorem dL_refuses_381 : decode cL_refuses 381 = .ok (.bipush 100, 2) := by decide +kernel
theorem dL_refuses_383 : decode cL_refuses 383 = .ok (.goto 5, 3) := by decide +kernel
theorem dL_refuses_386 : decode cL_refuses 386 = .ok (.iload 4, 2) := by decide +kernel
theorem dL_refuses_388 : decode cL_refuses 388 = .ok (.iconst 0, 1) := by decide +kernel
theorem dL_refuses_389 : decode cL_refuses 389 = .ok (.invokestatic 86, 3) := by decide +kernel
theorem dL_refuses_392 : decode cL_refuses 392 = .ok (.ldc 78, 2) := by decide +kernel
theorem dL_refuses_394 : decode cL_refuses 394 = .ok (.if_icmp .ne 195, 3) := by decide +kernel
theorem dL_refuses_397 : decode cL_refuses 397 = .ok (.aload_n 0, 1) := by decide +kernel
theorem dL_refuses_398 : decode cL_refuses 398 = .ok (.bipush 7, 2) := by decide +kernel
theorem dL_refuses_400 : decode cL_refuses 400 = .ok (.iload 5, 2) := by decide +kernel
theorem dL_refuses_402 : decode cL_refuses 402 = .ok (.iconst 0, 1) := by decide +kernel
theorem dL_refuses_403 : decode cL_refuses 403 = .ok (.bipush 9, 2) := by decide +kernel
theorem dL_refuses_405 : decode cL_refuses 405 = .ok (.iconst 0, 1) := by decide +kernel
theorem dL_refuses_406 : decode cL_refuses 406 = .ok (.invokestatic 86, 3) := by decide +kernel
theorem dL_refuses_409 : decode cL_refuses 409 = .ok (.ldc 75, 2) := by decide +kernel
theorem dL_refuses_411 : decode cL_refuses 411 = .ok (.if_icmp .ne 178, 3) := by decide +kernel
theorem dL_refuses_414 : decode cL_refuses 414 = .ok (.aload_n 0, 1) := by decide +kernel
theorem dL_refuses_415 : decode cL_refuses 415 = .ok (.bipush 8, 2) := by decide +kernel
theorem dL_refuses_417 : decode cL_refuses 417 = .ok (.iload 5, 2) := by decide +kernel
theorem dL_refuses_419 : decode cL_refuses 419 = .ok (.iconst 0, 1) := by decide +kernel
theorem dL_refuses_420 : decode cL_refuses 420 = .ok (.iconst (-1), 1) := by decide +kernel
theorem dL_refuses_421 : decode cL_refuses 421 = .ok (.iconst 0, 1) := by decide +kernel
theorem dL_refuses_422 : decode cL_refuses 422 = .ok (.invokestatic 86, 3) := by decide +kernel
theorem dL_refuses_425 : decode cL_refuses 425 = .ok (.ldc 75, 2) := by decide +kernel
theorem dL_refuses_427 : decode cL_refuses 427 = .ok (.if_icmp .ne 162, 3) := by decide +kernel
theorem dL_refuses_430 : decode cL_refuses 430 = .ok (.aload_n 0, 1) := by decide +kernel
theorem dL_refuses_431 : decode cL_refuses 431 = .ok (.bipush 9, 2) := by decide +kernel
theorem dL_refuses_433 : decode cL_refuses 433 = .ok (.iload 5, 2) := by decide +kernel
theorem dL_refuses_435 : decode cL_refuses 435 = .ok (.iconst (-1), 1) := by decide +kernel
theorem dL_refuses_436 : decode cL_refuses 436 = .ok (.iconst 0, 1) := by decide +kernel
theorem dL_refuses_437 : decode cL_refuses 437 = .ok (.iconst 0, 1) := by decide +kernel
theorem dL_refuses_438 : decode cL_refuses 438 = .ok (.invokestatic 86, 3) := by decide +kernel
theorem dL_refuses_441 : decode cL_refuses 441 = .ok (.ldc 75, 2) := by decide +kernel
theorem dL_refuses_443 : decode cL_refuses 443 = .ok (.if_icmp .ne 146, 3) := by decide +kernel
theorem dL_refuses_446 : decode cL_refuses 446 = .ok (.aload_n 0, 1) := by decide +kernel
theorem dL_refuses_447 : decode cL_refuses 447 = .ok (.bipush 9, 2) := by decide +kernel
theorem dL_refuses_449 : decode cL_refuses 449 = .ok (.iconst 0, 1) := by decide +kernel
theorem dL_refuses_450 : decode cL_refuses 450 = .ok (.iload 6, 2) := by decide +kernel
theorem dL_refuses_452 : decode cL_refuses 452 = .ok (.iconst 0, 1) := by decide +kernel
theorem dL_refuses_453 : decode cL_refuses 453 = .ok (.iconst 0, 1) := by decide +kernel
theorem dL_refuses_454 : decode cL_refuses 454 = .ok (.invokestatic 86, 3) := by decide +kernel
theorem dL_refuses_457 : decode cL_refuses 457 = .ok (.ldc 78, 2) := by decide +kernel
theorem dL_refuses_459 : decode cL_refuses 459 = .ok (.if_icmp .ne 130, 3) := by decide +kernel
theorem dL_refuses_462 : decode cL_refuses 462 = .ok (.aload_n 0, 1) := by decide +kernel
theorem dL_refuses_463 : decode cL_refuses 463 = .ok (.bipush 10, 2) := by decide +kernel
theorem dL_refuses_465 : decode cL_refuses 465 = .ok (.iload 5, 2) := by decide +kernel
theorem dL_refuses_467 : decode cL_refuses 467 = .ok (.iconst (-1), 1) := by decide +kernel
theorem dL_refuses_468 : decode cL_refuses 468 = .ok (.iconst 0, 1) := by decide +kernel
theorem dL_refuses_469 : decode cL_refuses 469 = .ok (.iconst 0, 1) := by decide +kernel
theorem dL_refuses_470 : decode cL_refuses 470 = .ok (.invokestatic 86, 3) := by decide +kernel
theorem dL_refuses_473 : decode cL_refuses 473 = .ok (.ldc 75, 2) := by decide +kernel
theorem dL_refuses_475 : decode cL_refuses 475 = .ok (.if_icmp .ne 114, 3) := by decide +kernel
theorem dL_refuses_478 : decode cL_refuses 478 = .ok (.aload_n 0, 1) := by decide +kernel
theorem dL_refuses_479 : decode cL_refuses 479 = .ok (.bipush 10, 2) := by decide +kernel
theorem dL_refuses_481 : decode cL_refuses 481 = .ok (.iconst 0, 1) := by decide +kernel
theorem dL_refuses_482 : decode cL_refuses 482 = .ok (.iload 6, 2) := by decide +kernel
theorem dL_refuses_484 : decode cL_refuses 484 = .ok (.iconst 0, 1) := by decide +kernel
theorem dL_refuses_485 : decode cL_refuses 485 = .ok (.iconst 0, 1) := by decide +kernel
theorem dL_refuses_486 : decode cL_refuses 486 = .ok (.invokestatic 86, 3) := by decide +kernel
theorem dL_refuses_489 : decode cL_refuses 489 = .ok (.ldc 78, 2) := by decide +kernel
theorem dL_refuses_491 : decode cL_refuses 491 = .ok (.if_icmp .ne 98, 3) := by decide +kernel
theorem dL_refuses_494 : decode cL_refuses 494 = .ok (.aload_n 0, 1) := by decide +kernel
