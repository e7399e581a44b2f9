theorem dL_adders_163 : decode cL_adders 163 = .ok (.iconst 0, 1) := by decide +kernel
theorem dL_adders_164 : decode cL_adders 164 = .ok (.ldc 110, 2) := by decide +kernel
theorem dL_adders_166 : decode cL_adders 166 = .ok (.iconst 0, 1) := by decide +kernel
theorem dL_adders_167 : decode cL_adders 167 = .ok (.invokestatic 102, 3) := by decide +kernel
theorem dL_adders_170 : decode cL_adders 170 = .ok (.ifCond .eq 210, 3) := by decide +kernel
theorem dL_adders_173 : decode cL_adders 173 = .ok (.aload_n 0, 1) := by decide +kernel
theorem dL_adders_174 : decode cL_adders 174 = .ok (.iconst 0, 1) := by decide +kernel
theorem dL_adders_175 : decode cL_adders 175 = .ok (.bipush 10, 2) := by decide +kernel
theorem dL_adders_177 : decode cL_adders 177 = .ok (.invokevirtual 49, 3) := by decide +kernel
theorem dL_adders_180 : decode cL_adders 180 = .ok (.iconst 3, 1) := by decide +kernel
theorem dL_adders_181 : decode cL_adders 181 = .ok (.if_icmp .ne 199, 3) := by decide +kernel
theorem dL_adders_184 : decode cL_adders 184 = .ok (.aload_n 0, 1) := by decide +kernel
theorem dL_adders_185 : decode cL_adders 185 = .ok (.iconst 0, 1) := by decide +kernel
theorem dL_adders_186 : decode cL_adders 186 = .ok (.bipush 7, 2) := by decide +kernel
theorem dL_adders_188 : decode cL_adders 188 = .ok (.invokevirtual 49, 3) := by decide +kernel
theorem dL_adders_191 : decode cL_adders 191 = .ok (.iconst 2, 1) := by decide +kernel
theorem dL_adders_192 : decode cL_adders 192 = .ok (.if_icmp .ne 188, 3) := by decide +kernel
theorem dL_adders_195 : decode cL_adders 195 = .ok (.aload_n 0, 1) := by decide +kernel
theorem dL_adders_196 : decode cL_adders 196 = .ok (.iconst 0, 1) := by decide +kernel
theorem dL_adders_197 : decode cL_adders 197 = .ok (.iconst 3, 1) := by decide +kernel
theorem dL_adders_198 : decode cL_adders 198 = .ok (.invokevirtual 49, 3) := by decide +kernel
theorem dL_adders_201 : decode cL_adders 201 = .ok (.ifCond .ne 179, 3) := by decide +kernel
theorem dL_adders_204 : decode cL_adders 204 = .ok (.aload_n 0, 1) := by decide +kernel
theorem dL_adders_205 : decode cL_adders 205 = .ok (.iconst 0, 1) := by decide +kernel
theorem dL_adders_206 : decode cL_adders 206 = .ok (.bipush 10, 2) := by decide +kernel
theorem dL_adders_208 : decode cL_adders 208 = .ok (.bipush 9, 2) := by decide +kernel
theorem dL_adders_210 : decode cL_adders 210 = .ok (.bipush 6, 2) := by decide +kernel
theorem dL_adders_212 : decode cL_adders 212 = .ok (.iconst 1, 1) := by decide +kernel
theorem dL_adders_213 : decode cL_adders 213 = .ok (.iconst (-1), 1) := by decide +kernel
theorem dL_adders_214 : decode cL_adders 214 = .ok (.invokestatic 105, 3) := by decide +kernel
theorem dL_adders_217 : decode cL_adders 217 = .ok (.ifCond .eq 163, 3) := by decide +kernel
theorem dL_adders_220 : decode cL_adders 220 = .ok (.aload_n 0, 1) := by decide +kernel
theorem dL_adders_221 : decode cL_adders 221 = .ok (.iconst 0, 1) := by decide +kernel
theorem dL_adders_222 : decode cL_adders 222 = .ok (.iconst 5, 1) := by decide +kernel
theorem dL_adders_223 : decode cL_adders 223 = .ok (.iconst 5, 1) := by decide +kernel
theorem dL_adders_224 : decode cL_adders 224 = .ok (.invokevirtual 37, 3) := by decide +kernel
theorem dL_adders_227 : decode cL_adders 227 = .ok (.iconst 1, 1) := by decide +kernel
theorem dL_adders_228 : decode cL_adders 228 = .ok (.if_icmp .ne 152, 3) := by decide +kernel
theorem dL_adders_231 : decode cL_adders 231 = .ok (.aload_n 0, 1) := by decide +kernel
theorem dL_adders_232 : decode cL_adders 232 = .ok (.iconst 0, 1) := by decide +kernel
theorem dL_adders_233 : decode cL_adders 233 = .ok (.bipush 7, 2) := by decide +kernel
theorem dL_adders_235 : decode cL_adders 235 = .ok (.iconst 5, 1) := by decide +kernel
theorem dL_adders_236 : decode cL_adders 236 = .ok (.invokevirtual 37, 3) := by decide +kernel
theorem dL_adders_239 : decode cL_adders 239 = .ok (.iconst 1, 1) := by decide +kernel
theorem dL_adders_240 : decode cL_adders 240 = .ok (.if_icmp .ne 140, 3) := by decide +kernel
theorem dL_adders_243 : decode cL_adders 243 = .ok (.aload_n 0, 1) := by decide +kernel
theorem dL_adders_244 : decode cL_adders 244 = .ok (.iconst 0, 1) := by decide +kernel
theorem dL_adders_245 : decode cL_adders 245 = .ok (.bipush 6, 2) := by decide +kernel
theorem dL_adders_247 : decode cL_adders 247 = .ok (.iconst 5, 1) := by decide +kernel
theorem dL_adders_248 : decode cL_adders 248 = .ok (.invokevirtual 37, 3) := by decide +kernel
theorem dL_adders_251 : decode cL_adders 251 = .ok (.ifCond .ne 129, 3) := by decide +kernel
theorem dL_adders_254 : decode cL_adders 254 = .ok (.aload_n 0, 1) := by decide +kernel
theorem dL_adders_255 : decode cL_adders 255 = .ok (.iconst 0, 1) := by decide +kernel
theorem dL_adders_256 : decode cL_adders 256 = .ok (.iconst 2, 1) := by decide +kernel
theorem dL_adders_257 : decode cL_adders 257 = .ok (.iconst 4, 1) := by decide +kernel
theorem dL_adders_258 : decode cL_adders 258 = .ok (.invokevirtual 37, 3) := by decide +kernel
theorem dL_adders_261 : decode cL_adders 261 = .ok (.iconst 1, 1) := by decide +kernel
theorem dL_adders_262 : decode cL_adders 262 = .ok (.if_icmp .ne 118, 3) := by decide +kernel
theorem dL_adders_265 : decode cL_adders 265 = .ok (.aload_n 0, 1) := by decide +kernel
theorem dL_adders_266 : decode cL_adders 266 = .ok (.iconst 0, 1) := by decide +kernel
theorem dL_adders_267 : decode cL_adders 267 = .ok (.iconst 0, 1) := by decide +kernel
theorem dL_adders_268 : decode cL_adders 268 = .ok (.iconst 0, 1) := by decide +kernel
theorem dL_adders_269 : decode cL_adders 269 = .ok (.iconst 0, 1) := by decide +kernel
theorem dL_adders_270 : decode cL_adders 270 = .ok (.iconst 0, 1) := by decide +kernel
theorem dL_adders_271 : decode cL_adders 271 = .ok (.iconst (-1), 1) := by decide +kernel
theorem dL_adders_272 : decode cL_adders 272 = .ok (.invokestatic 111, 3) := by decide +kernel
theorem dL_adders_275 : decode cL_adders 275 = .ok (.ifCond .eq 105, 3) := by decide +kernel
theorem dL_adders_278 : decode cL_adders 278 = .ok (.aload_n 0, 1) := by decide +kernel
theorem dL_adders_279 : decode cL_adders 279 = .ok (.iconst 0, 1) := by decide +kernel
theorem dL_adders_280 : decode cL_adders 280 = .ok (.iconst 1, 1) := by decide +kernel
theorem dL_adders_281 : decode cL_adders 281 = .ok (.bipush 14, 2) := by decide +kernel
theorem dL_adders_283 : decode cL_adders 283 = .ok (.iconst 3, 1) := by decide +kernel
theorem dL_adders_284 : decode cL_adders 284 = .ok (.bipush 22, 2) := by decide +kernel
theorem dL_adders_286 : decode cL_adders 286 = .ok (.iconst 1, 1) := by decide +kernel
theorem dL_adders_287 : decode cL_adders 287 = .ok (.invokestatic 111, 3) := by decide +kernel
theorem dL_adders_290 : decode cL_adders 290 = .ok (.ifCond .eq 90, 3) := by decide +kernel
theorem dL_adders_293 : decode cL_adders 293 = .ok (.aload_n 0, 1) := by decide +kernel
theorem dL_adders_294 : decode cL_adders 294 = .ok (.iconst 0, 1) := by decide +kernel
theorem dL_adders_295 : decode cL_adders 295 = .ok (.iconst 1, 1) := by decide +kernel
theorem dL_adders_296 : decode cL_adders 296 = .ok (.iconst 2, 1) := by decide +kernel
theorem dL_adders_297 : decode cL_adders 297 = .ok (.invokevirtual 64, 3) := by decide +kernel
theorem dL_adders_300 : decode cL_adders 300 = .ok (.iconst 2, 1) := by decide +kernel
theorem dL_adders_301 : decode cL_adders 301 = .ok (.if_icmp .ne 79, 3) := by decide +kernel
theorem dL_adders_304 : decode cL_adders 304 = .ok (.aload_n 0, 1) := by decide +kernel
theorem dL_adders_305 : decode cL_adders 305 = .ok (.iconst 0, 1) := by decide +kernel
theorem dL_adders_306 : decode cL_adders 306 = .ok (.iconst 1, 1) := by decide +kernel
theorem dL_adders_307 : decode cL_adders 307 = .ok (.iconst 3, 1) := by decide +kernel
theorem dL_adders_308 : decode cL_adders 308 = .ok (.invokevirtual 64, 3) := by decide +kernel
theorem dL_adders_311 : decode cL_adders 311 = .ok (.iconst 3, 1) := by decide +kernel
theorem dL_adders_312 : decode cL_adders 312 = .ok (.if_icmp .ne 68, 3) := by decide +kernel
theorem dL_adders_315 : decode cL_adders 315 = .ok (.aload_n 0, 1) := by decide +kernel
theorem dL_adders_316 : decode cL_adders 316 = .ok (.iconst 0, 1) := by decide +kernel
theorem dL_adders_317 : decode cL_adders 317 = .ok (.iconst 0, 1) := by decide +kernel
theorem dL_adders_318 : decode cL_adders 318 = .ok (.iconst 5, 1) := by decide +kernel
theorem dL_adders_319 : decode cL_adders 319 = .ok (.invokevirtual 64, 3) := by decide +kernel
theorem dL_adders_322 : decode cL_adders 322 = .ok (.ifCond .ne 58, 3) := by decide +kernel
theorem dL_adders_325 : decode cL_adders 325 = .ok (.aload_n 0, 1) := by decide +kernel
theorem dL_adders_326 : decode cL_adders 326 = .ok (.iconst 0, 1) := by decide +kernel
theorem dL_adders_327 : decode cL_adders 327 = .ok (.iconst 0, 1) := by decide +kernel
theorem dL_adders_328 : decode cL_adders 328 = .ok (.iconst 5, 1) := by decide +kernel
theorem dL_adders_329 : decode cL_adders 329 = .ok (.iconst 2, 1) := by decide +kernel
theorem dL_adders_330 : decode cL_adders 330 = .ok (.iconst 2, 1) := by decide +kernel
theorem dL_adders_331 : decode cL_adders 331 = .ok (.iconst 1, 1) := by decide +kernel
theorem dL_adders_332 : decode cL_adders 332 = .ok (.invokestatic 108, 3) := by decide +kernel
theorem dL_adders_335 : decode cL_adders 335 = .ok (.ifCond .eq 45, 3) := by decide +kernel
theorem dL_adders_338 : decode cL_adders 338 = .ok (.aload_n 0, 1) := by decide +kernel
theorem dL_adders_339 : decode cL_adders 339 = .ok (.iconst 0, 1) := by decide +kernel
theorem dL_adders_340 : decode cL_adders 340 = .ok (.iconst 3, 1) := by decide +kernel
theorem dL_adders_341 : decode cL_adders 341 = .ok (.bipush 7, 2) := by decide +kernel
theorem dL_adders_343 : decode cL_adders 343 = .ok (.iconst 5, 1) := by decide +kernel
theorem dL_adders_344 : decode cL_adders 344 = .ok (.iconst 3, 1) := by decide +kernel
theorem dL_adders_345 : decode cL_adders 345 = .ok (.iconst 3, 1) := by decide +kernel
theorem dL_adders_346 : decode cL_adders 346 = .ok (.invokestatic 108, 3) := by decide +kernel
theorem dL_adders_349 : decode cL_adders 349 = .ok (.ifCond .eq 31, 3) := by decide +kernel
theorem dL_adders_352 : decode cL_adders 352 = .ok (.aload_n 0, 1) := by decide +kernel
theorem dL_adders_353 : decode cL_adders 353 = .ok (.iconst 0, 1) := by decide +kernel
theorem dL_adders_354 : decode cL_adders 354 = .ok (.iconst 1, 1) := by decide +kernel
theorem dL_adders_355 : decode cL_adders 355 = .ok (.iconst 4, 1) := by decide +kernel
theorem dL_adders_356 : decode cL_adders 356 = .ok (.iconst 0, 1) := by decide +kernel
theorem dL_adders_357 : decode cL_adders 357 = .ok (.iconst 0, 1) := by decide +kernel
theorem dL_adders_358 : decode cL_adders 358 = .ok (.iconst 0, 1) := by decide +kernel
theorem dL_adders_359 : decode cL_adders 359 = .ok (.invokestatic 108, 3) := by decide +kernel
theorem dL_adders_362 : decode cL_adders 362 = .ok (.ifCond .eq 18, 3) := by decide +kernel
theorem dL_adders_365 : decode cL_adders 365 = .ok (.aload_n 0, 1) := by decide +kernel
theorem dL_adders_366 : decode cL_adders 366 = .ok (.iconst 0, 1) := by decide +kernel
theorem dL_adders_367 : decode cL_adders 367 = .ok (.bipush 6, 2) := by decide +kernel
theorem dL_adders_369 : decode cL_adders 369 = .ok (.bipush 6, 2) := by decide +kernel
theorem dL_adders_371 : decode cL_adders 371 = .ok (.iconst 0, 1) := by decide +kernel
theorem dL_adders_372 : decode cL_adders 372 = .ok (.iconst 0, 1) := by decide +kernel
theorem dL_adders_373 : decode cL_adders 373 = .ok (.iconst 0, 1) := by decide +kernel
theorem dL_adders_374 : decode cL_adders 374 = .ok (.invokestatic 108, 3) := by decide +kernel
theorem dL_adders_377 : decode cL_adders 377 = .ok (.ifCond .ne 5, 3) := by decide +kernel
theorem dL_adders_380 : decode cL_adders 380 = .ok (.iconst 0, 1) := by decide +kernel
theorem dL_adders_381 : decode cL_adders 381 = .ok (.ireturn, 1) := by decide +kernel
theorem dL_adders_382 : decode cL_adders 382 = .ok (.aload_n 0, 1) := by decide +kernel
theorem dL_adders_383 : decode cL_adders 383 = .ok (.iconst 0, 1) := by decide +kernel
theorem dL_adders_384 : decode cL_adders 384 = .ok (.iconst 5, 1) := by decide +kernel
theorem dL_adders_385 : decode cL_adders 385 = .ok (.iconst 0, 1) := by decide +kernel
theorem dL_adders_386 : decode cL_adders 386 = .ok (.invokevirtual 34, 3) := by decide +kernel
theorem dL_adders_389 : decode cL_adders 389 = .ok (.iconst (-1), 1) := by decide +kernel
theorem dL_adders_390 : decode cL_adders 390 = .ok (.if_icmp .ne 413, 3) := by decide +kernel
theorem dL_adders_393 : decode cL_adders 393 = .ok (.aload_n 0, 1) := by decide +kernel
theorem dL_adders_394 : decode cL_adders 394 = .ok (.iconst 0, 1) := by decide +kernel
theorem dL_adders_395 : decode cL_adders 395 = .ok (.iconst 5, 1) := by decide +kernel
theorem dL_adders_396 : decode cL_adders 396 = .ok (.iconst 0, 1) := by decide +kernel
theorem dL_adders_397 : decode cL_adders 397 = .ok (.invokestatic 102, 3) := by decide +kernel
theorem dL_adders_400 : decode cL_adders 400 = .ok (.ifCond .eq 403, 3) := by decide +kernel
theorem dL_adders_403 : decode cL_adders 403 = .ok (.aload_n 0, 1) := by decide +kernel
theorem dL_adders_404 : decode cL_adders 404 = .ok (.iconst 0, 1) := by decide +kernel
theorem dL_adders_405 : decode cL_adders 405 = .ok (.iconst 0, 1) := by decide +kernel
theorem dL_adders_406 : decode cL_adders 406 = .ok (.iconst 4, 1) := by decide +kernel
theorem dL_adders_407 : decode cL_adders 407 = .ok (.iconst 2, 1) := by decide +kernel
theorem dL_adders_408 : decode cL_adders 408 = .ok (.bipush 8, 2) := by decide +kernel
theorem dL_adders_410 : decode cL_adders 410 = .ok (.iconst 5, 1) := by decide +kernel
theorem dL_adders_411 : decode cL_adders 411 = .ok (.invokestatic 111, 3) := by decide +kernel
theorem dL_adders_414 : decode cL_adders 414 = .ok (.ifCond .eq 389, 3) := by decide +kernel
theorem dL_adders_417 : decode cL_adders 417 = .ok (.aload_n 0, 1) := by decide +kernel
theorem dL_adders_418 : decode cL_adders 418 = .ok (.iconst 0, 1) := by decide +kernel
theorem dL_adders_419 : decode cL_adders 419 = .ok (.iconst 0, 1) := by decide +kernel
theorem dL_adders_420 : decode cL_adders 420 = .ok (.iconst 2, 1) := by decide +kernel
theorem dL_adders_421 : decode cL_adders 421 = .ok (.invokevirtual 64, 3) := by decide +kernel
theorem dL_adders_424 : decode cL_adders 424 = .ok (.iconst 4, 1) := by decide +kernel
theorem dL_adders_425 : decode cL_adders 425 = .ok (.if_icmp .ne 378, 3) := by decide +kernel
theorem dL_adders_428 : decode cL_adders 428 = .ok (.aload_n 0, 1) := by decide +kernel
theorem dL_adders_429 : decode cL_adders 429 = .ok (.iconst 0, 1) := by decide +kernel
theorem dL_adders_430 : decode cL_adders 430 = .ok (.iconst 0, 1) := by decide +kernel
theorem dL_adders_431 : decode cL_adders 431 = .ok (.iconst 3, 1) := by decide +kernel
theorem dL_adders_432 : decode cL_adders 432 = .ok (.invokevirtual 64, 3) := by decide +kernel
theorem dL_adders_435 : decode cL_adders 435 = .ok (.ifCond .ne 368, 3) := by decide +kernel
theorem dL_adders_438 : decode cL_adders 438 = .ok (.aload_n 0, 1) := by decide +kernel
theorem dL_adders_439 : decode cL_adders 439 = .ok (.iconst 0, 1) := by decide +kernel
theorem dL_adders_440 : decode cL_adders 440 = .ok (.iconst 0, 1) := by decide +kernel
theorem dL_adders_441 : decode cL_adders 441 = .ok (.iconst 5, 1) := by decide +kernel
theorem dL_adders_442 : decode cL_adders 442 = .ok (.iconst 0, 1) := by decide +kernel
theorem dL_adders_443 : decode cL_adders 443 = .ok (.iconst 0, 1) := by decide +kernel
theorem dL_adders_444 : decode cL_adders 444 = .ok (.iconst 0, 1) := by decide +kernel
theorem dL_adders_445 : decode cL_adders 445 = .ok (.invokestatic 108, 3) := by decide +kernel
theorem dL_adders_448 : decode cL_adders 448 = .ok (.ifCond .eq 355, 3) := by decide +kernel
theorem dL_adders_451 : decode cL_adders 451 = .ok (.aload_n 0, 1) := by decide +kernel
theorem dL_adders_452 : decode cL_adders 452 = .ok (.iconst 0, 1) := by decide +kernel
theorem dL_adders_453 : decode cL_adders 453 = .ok (.bipush 11, 2) := by decide +kernel
theorem dL_adders_455 : decode cL_adders 455 = .ok (.iconst 4, 1) := by decide +kernel
theorem dL_adders_456 : decode cL_adders 456 = .ok (.iconst 3, 1) := by decide +kernel
theorem dL_adders_457 : decode cL_adders 457 = .ok (.bipush 7, 2) := by decide +kernel
theorem dL_adders_459 : decode cL_adders 459 = .ok (.iconst 3, 1) := by decide +kernel
theorem dL_adders_460 : decode cL_adders 460 = .ok (.iconst 0, 1) := by decide +kernel
theorem dL_adders_461 : decode cL_adders 461 = .ok (.invokestatic 97, 3) := by decide +kernel
theorem dL_adders_464 : decode cL_adders 464 = .ok (.ifCond .eq 339, 3) := by decide +kernel
theorem dL_adders_467 : decode cL_adders 467 = .ok (.aload_n 0, 1) := by decide +kernel
theorem dL_adders_468 : decode cL_adders 468 = .ok (.iconst 0, 1) := by decide +kernel
theorem dL_adders_469 : decode cL_adders 469 = .ok (.iconst 5, 1) := by decide +kernel
theorem dL_adders_470 : decode cL_adders 470 = .ok (.iconst (-1), 1) := by decide +kernel
theorem dL_adders_471 : decode cL_adders 471 = .ok (.invokevirtual 34, 3) := by decide +kernel
theorem dL_adders_474 : decode cL_adders 474 = .ok (.ifCond .ne 329, 3) := by decide +kernel
theorem dL_adders_477 : decode cL_adders 477 = .ok (.aload_n 0, 1) := by decide +kernel
theorem dL_adders_478 : decode cL_adders 478 = .ok (.iconst 0, 1) := by decide +kernel
theorem dL_adders_479 : decode cL_adders 479 = .ok (.iconst 0, 1) := by decide +kernel
theorem dL_adders_480 : decode cL_adders 480 = .ok (.iconst 1, 1) := by decide +kernel
theorem dL_adders_481 : decode cL_adders 481 = .ok (.invokevirtual 34, 3) := by decide +kernel
theorem dL_adders_484 : decode cL_adders 484 = .ok (.iconst (-1), 1) := by decide +kernel
theorem dL_adders_485 : decode cL_adders 485 = .ok (.if_icmp .ne 318, 3) := by decide +kernel
theorem dL_adders_488 : decode cL_adders 488 = .ok (.aload_n 0, 1) := by decide +kernel
theorem dL_adders_489 : decode cL_adders 489 = .ok (.iconst 0, 1) := by decide +kernel
theorem dL_adders_490 : decode cL_adders 490 = .ok (.iconst 0, 1) := by decide +kernel
theorem dL_adders_491 : decode cL_adders 491 = .ok (.iconst 1, 1) := by decide +kernel
theorem dL_adders_492 : decode cL_adders 492 = .ok (.invokestatic 102, 3) := by decide +kernel
theorem dL_adders_495 : decode cL_adders 495 = .ok (.ifCond .eq 308, 3) := by decide +kernel
theorem dL_adders_498 : decode cL_adders 498 = .ok (.aload_n 0, 1) := by decide +kernel
theorem dL_adders_499 : decode cL_adders 499 = .ok (.iconst 0, 1) := by decide +kernel
theorem dL_adders_500 : decode cL_adders 500 = .ok (.iconst 0, 1) := by decide +kernel
theorem dL_adders_501 : decode cL_adders 501 = .ok (.iconst 1, 1) := by decide +kernel
theorem dL_adders_502 : decode cL_adders 502 = .ok (.iconst 0, 1) := by decide +kernel
theorem dL_adders_503 : decode cL_adders 503 = .ok (.iconst 0, 1) := by decide +kernel
theorem dL_adders_504 : decode cL_adders 504 = .ok (.iconst 0, 1) := by decide +kernel
theorem dL_adders_505 : decode cL_adders 505 = .ok (.invokestatic 108, 3) := by decide +kernel
theorem dL_adders_508 : decode cL_adders 508 = .ok (.ifCond .eq 295, 3) := by decide +kernel
theorem dL_adders_511 : decode cL_adders 511 = .ok (.aload_n 0, 1) := by decide +kernel
theorem dL_adders_512 : decode cL_adders 512 = .ok (.iconst 0, 1) := by decide +kernel
theorem dL_adders_513 : decode cL_adders 513 = .ok (.iconst 0, 1) := by decide +kernel
theorem dL_adders_514 : decode cL_adders 514 = .ok (.iconst 0, 1) := by decide +kernel
theorem dL_adders_515 : decode cL_adders 515 = .ok (.invokevirtual 37, 3) := by decide +kernel
theorem dL_adders_518 : decode cL_adders 518 = .ok (.iconst 1, 1) := by decide +kernel
theorem dL_adders_519 : decode cL_adders 519 = .ok (.if_icmp .ne 284, 3) := by decide +kernel
theorem dL_adders_522 : decode cL_adders 522 = .ok (.aload_n 0, 1) := by decide +kernel
theorem dL_adders_523 : decode cL_adders 523 = .ok (.iconst 0, 1) := by decide +kernel
theorem dL_adders_524 : decode cL_adders 524 = .ok (.iconst 0, 1) := by decide +kernel
theorem dL_adders_525 : decode cL_adders 525 = .ok (.iconst (-1), 1) := by decide +kernel
theorem dL_adders_526 : decode cL_adders 526 = .ok (.invokevirtual 34, 3) := by decide +kernel
theorem dL_adders_529 : decode cL_adders 529 = .ok (.iconst 1, 1) := by decide +kernel
theorem dL_adders_530 : decode cL_adders 530 = .ok (.if_icmp .ne 273, 3) := by decide +kernel
