theorem dL_isSo_196 : decode cL_isSo 196 = .ok (.bipush 10, 2) := by decide +kernel
theorem dL_isSo_198 : decode cL_isSo 198 = .ok (.if_icmp .ge 111, 3) := by decide +kernel
theorem dL_isSo_201 : decode cL_isSo 201 = .ok (.aload_n 3, 1) := by decide +kernel
theorem dL_isSo_202 : decode cL_isSo 202 = .ok (.iconst 4, 1) := by decide +kernel
theorem dL_isSo_203 : decode cL_isSo 203 = .ok (.iload 10, 2) := by decide +kernel
theorem dL_isSo_205 : decode cL_isSo 205 = .ok (.imul, 1) := by decide +kernel
theorem dL_isSo_206 : decode cL_isSo 206 = .ok (.iload 14, 2) := by decide +kernel
theorem dL_isSo_208 : decode cL_isSo 208 = .ok (.iadd, 1) := by decide +kernel
theorem dL_isSo_209 : decode cL_isSo 209 = .ok (.laload, 1) := by decide +kernel
theorem dL_isSo_210 : decode cL_isSo 210 = .ok (.bipush 11, 2) := by decide +kernel
theorem dL_isSo_212 : decode cL_isSo 212 = .ok (.iload 16, 2) := by decide +kernel
theorem dL_isSo_214 : decode cL_isSo 214 = .ok (.invokestatic 15, 3) := by decide +kernel
theorem dL_isSo_217 : decode cL_isSo 217 = .ok (.istore 17, 2) := by decide +kernel
theorem dL_isSo_219 : decode cL_isSo 219 = .ok (.iload 13, 2) := by decide +kernel
theorem dL_isSo_221 : decode cL_isSo 221 = .ok (.iload 17, 2) := by decide +kernel
theorem dL_isSo_223 : decode cL_isSo 223 = .ok (.bipush 10, 2) := by decide +kernel
theorem dL_isSo_225 : decode cL_isSo 225 = .ok (.if_icmp .ge 7, 3) := by decide +kernel
theorem dL_isSo_228 : decode cL_isSo 228 = .ok (.iconst 1, 1) := by decide +kernel
theorem dL_isSo_229 : decode cL_isSo 229 = .ok (.goto 4, 3) := by decide +kernel
theorem dL_isSo_232 : decode cL_isSo 232 = .ok (.iconst 0, 1) := by decide +kernel
theorem dL_isSo_233 : decode cL_isSo 233 = .ok (.iadd, 1) := by decide +kernel
theorem dL_isSo_234 : decode cL_isSo 234 = .ok (.istore 13, 2) := by decide +kernel
theorem dL_isSo_236 : decode cL_isSo 236 = .ok (.iload 9, 2) := by decide +kernel
theorem dL_isSo_238 : decode cL_isSo 238 = .ok (.ifCond .eq 62, 3) := by decide +kernel
theorem dL_isSo_241 : decode cL_isSo 241 = .ok (.aload_n 0, 1) := by decide +kernel
theorem dL_isSo_242 : decode cL_isSo 242 = .ok (.iload 10, 2) := by decide +kernel
theorem dL_isSo_244 : decode cL_isSo 244 = .ok (.iload 14, 2) := by decide +kernel
theorem dL_isSo_246 : decode cL_isSo 246 = .ok (.iload 16, 2) := by decide +kernel
theorem dL_isSo_248 : decode cL_isSo 248 = .ok (.invokevirtual 107, 3) := by decide +kernel
theorem dL_isSo_251 : decode cL_isSo 251 = .ok (.iload 17, 2) := by decide +kernel
theorem dL_isSo_253 : decode cL_isSo 253 = .ok (.bipush 10, 2) := by decide +kernel
theorem dL_isSo_255 : decode cL_isSo 255 = .ok (.if_icmp .ge 8, 3) := by decide +kernel
theorem dL_isSo_258 : decode cL_isSo 258 = .ok (.iload 17, 2) := by decide +kernel
theorem dL_isSo_260 : decode cL_isSo 260 = .ok (.goto 5, 3) := by decide +kernel
theorem dL_isSo_263 : decode cL_isSo 263 = .ok (.bipush (-4), 2) := by decide +kernel
theorem dL_isSo_265 : decode cL_isSo 265 = .ok (.if_icmp .ne 35, 3) := by decide +kernel
theorem dL_isSo_268 : decode cL_isSo 268 = .ok (.iload 14, 2) := by decide +kernel
theorem dL_isSo_270 : decode cL_isSo 270 = .ok (.ifCond .gt 26, 3) := by decide +kernel
theorem dL_isSo_273 : decode cL_isSo 273 = .ok (.aload_n 0, 1) := by decide +kernel
theorem dL_isSo_274 : decode cL_isSo 274 = .ok (.iload 10, 2) := by decide +kernel
theorem dL_isSo_276 : decode cL_isSo 276 = .ok (.iload 16, 2) := by decide +kernel
theorem dL_isSo_278 : decode cL_isSo 278 = .ok (.invokevirtual 110, 3) := by decide +kernel
theorem dL_isSo_281 : decode cL_isSo 281 = .ok (.aload 4, 2) := by decide +kernel
theorem dL_isSo_283 : decode cL_isSo 283 = .ok (.iload 10, 2) := by decide +kernel
theorem dL_isSo_285 : decode cL_isSo 285 = .ok (.laload, 1) := by decide +kernel
theorem dL_isSo_286 : decode cL_isSo 286 = .ok (.bipush 10, 2) := by decide +kernel
theorem dL_isSo_288 : decode cL_isSo 288 = .ok (.iload 16, 2) := by decide +kernel
theorem dL_isSo_290 : decode cL_isSo 290 = .ok (.invokestatic 15, 3) := by decide +kernel
theorem dL_isSo_293 : decode cL_isSo 293 = .ok (.if_icmp .ne 7, 3) := by decide +kernel
theorem dL_isSo_296 : decode cL_isSo 296 = .ok (.iconst 1, 1) := by decide +kernel
theorem dL_isSo_297 : decode cL_isSo 297 = .ok (.goto 4, 3) := by decide +kernel
theorem dL_isSo_300 : decode cL_isSo 300 = .ok (.iconst 0, 1) := by decide +kernel
theorem dL_isSo_301 : decode cL_isSo 301 = .ok (.istore 9, 2) := by decide +kernel
theorem dL_isSo_303 : decode cL_isSo 303 = .ok (.iinc 16 1, 3) := by decide +kernel
theorem dL_isSo_306 : decode cL_isSo 306 = .ok (.goto (-112), 3) := by decide +kernel
theorem dL_isSo_309 : decode cL_isSo 309 = .ok (.iinc 14 1, 3) := by decide +kernel
theorem dL_isSo_312 : decode cL_isSo 312 = .ok (.goto (-204), 3) := by decide +kernel
theorem dL_isSo_315 : decode cL_isSo 315 = .ok (.aload_n 1, 1) := by decide +kernel
theorem dL_isSo_316 : decode cL_isSo 316 = .ok (.iload 10, 2) := by decide +kernel
theorem dL_isSo_318 : decode cL_isSo 318 = .ok (.invokestatic 113, 3) := by decide +kernel
theorem dL_isSo_321 : decode cL_isSo 321 = .ok (.istore 14, 2) := by decide +kernel
theorem dL_isSo_323 : decode cL_isSo 323 = .ok (.iload 6, 2) := by decide +kernel
theorem dL_isSo_325 : decode cL_isSo 325 = .ok (.iload 14, 2) := by decide +kernel
theorem dL_isSo_327 : decode cL_isSo 327 = .ok (.iload 10, 2) := by decide +kernel
theorem dL_isSo_329 : decode cL_isSo 329 = .ok (.if_icmp .ne 7, 3) := by decide +kernel
theorem dL_isSo_332 : decode cL_isSo 332 = .ok (.iconst 1, 1) := by decide +kernel
theorem dL_isSo_333 : decode cL_isSo 333 = .ok (.goto 4, 3) := by decide +kernel
theorem dL_isSo_336 : decode cL_isSo 336 = .ok (.iconst 0, 1) := by decide +kernel
theorem dL_isSo_337 : decode cL_isSo 337 = .ok (.iadd, 1) := by decide +kernel
theorem dL_isSo_338 : decode cL_isSo 338 = .ok (.istore 6, 2) := by decide +kernel
theorem dL_isSo_340 : decode cL_isSo 340 = .ok (.iload 7, 2) := by decide +kernel
theorem dL_isSo_342 : decode cL_isSo 342 = .ok (.aload_n 2, 1) := by decide +kernel
theorem dL_isSo_343 : decode cL_isSo 343 = .ok (.bipush 6, 2) := by decide +kernel
theorem dL_isSo_345 : decode cL_isSo 345 = .ok (.iload 10, 2) := by decide +kernel
theorem dL_isSo_347 : decode cL_isSo 347 = .ok (.iadd, 1) := by decide +kernel
theorem dL_isSo_348 : decode cL_isSo 348 = .ok (.iaload, 1) := by decide +kernel
theorem dL_isSo_349 : decode cL_isSo 349 = .ok (.ifCond .lt 7, 3) := by decide +kernel
theorem dL_isSo_352 : decode cL_isSo 352 = .ok (.iconst 1, 1) := by decide +kernel
theorem dL_isSo_353 : decode cL_isSo 353 = .ok (.goto 4, 3) := by decide +kernel
theorem dL_isSo_356 : decode cL_isSo 356 = .ok (.iconst 0, 1) := by decide +kernel
theorem dL_isSo_357 : decode cL_isSo 357 = .ok (.iadd, 1) := by decide +kernel
theorem dL_isSo_358 : decode cL_isSo 358 = .ok (.istore 7, 2) := by decide +kernel
theorem dL_isSo_360 : decode cL_isSo 360 = .ok (.iload 8, 2) := by decide +kernel
theorem dL_isSo_362 : decode cL_isSo 362 = .ok (.aload_n 2, 1) := by decide +kernel
theorem dL_isSo_363 : decode cL_isSo 363 = .ok (.bipush 6, 2) := by decide +kernel
theorem dL_isSo_365 : decode cL_isSo 365 = .ok (.iload 10, 2) := by decide +kernel
theorem dL_isSo_367 : decode cL_isSo 367 = .ok (.iadd, 1) := by decide +kernel
theorem dL_isSo_368 : decode cL_isSo 368 = .ok (.iaload, 1) := by decide +kernel
theorem dL_isSo_369 : decode cL_isSo 369 = .ok (.aload_n 2, 1) := by decide +kernel
theorem dL_isSo_370 : decode cL_isSo 370 = .ok (.iload 10, 2) := by decide +kernel
theorem dL_isSo_372 : decode cL_isSo 372 = .ok (.iaload, 1) := by decide +kernel
theorem dL_isSo_373 : decode cL_isSo 373 = .ok (.if_icmp .ne 7, 3) := by decide +kernel
theorem dL_isSo_376 : decode cL_isSo 376 = .ok (.iconst 1, 1) := by decide +kernel
theorem dL_isSo_377 : decode cL_isSo 377 = .ok (.goto 4, 3) := by decide +kernel
theorem dL_isSo_380 : decode cL_isSo 380 = .ok (.iconst 0, 1) := by decide +kernel
theorem dL_isSo_381 : decode cL_isSo 381 = .ok (.iadd, 1) := by decide +kernel
theorem dL_isSo_382 : decode cL_isSo 382 = .ok (.istore 8, 2) := by decide +kernel
theorem dL_isSo_384 : decode cL_isSo 384 = .ok (.iload 9, 2) := by decide +kernel
theorem dL_isSo_386 : decode cL_isSo 386 = .ok (.ifCond .eq 168, 3) := by decide +kernel
theorem dL_isSo_389 : decode cL_isSo 389 = .ok (.aload_n 0, 1) := by decide +kernel
theorem dL_isSo_390 : decode cL_isSo 390 = .ok (.iload 10, 2) := by decide +kernel
theorem dL_isSo_392 : decode cL_isSo 392 = .ok (.iconst 0, 1) := by decide +kernel
theorem dL_isSo_393 : decode cL_isSo 393 = .ok (.invokevirtual 116, 3) := by decide +kernel
theorem dL_isSo_396 : decode cL_isSo 396 = .ok (.iload 10, 2) := by decide +kernel
theorem dL_isSo_398 : decode cL_isSo 398 = .ok (.aload_n 1, 1) := by decide +kernel
theorem dL_isSo_399 : decode cL_isSo 399 = .ok (.iconst 0, 1) := by decide +kernel
theorem dL_isSo_400 : decode cL_isSo 400 = .ok (.iaload, 1) := by decide +kernel
theorem dL_isSo_401 : decode cL_isSo 401 = .ok (.irem, 1) := by decide +kernel
theorem dL_isSo_402 : decode cL_isSo 402 = .ok (.if_icmp .ne 152, 3) := by decide +kernel
theorem dL_isSo_405 : decode cL_isSo 405 = .ok (.aload_n 0, 1) := by decide +kernel
theorem dL_isSo_406 : decode cL_isSo 406 = .ok (.iload 10, 2) := by decide +kernel
theorem dL_isSo_408 : decode cL_isSo 408 = .ok (.iconst 1, 1) := by decide +kernel
theorem dL_isSo_409 : decode cL_isSo 409 = .ok (.invokevirtual 116, 3) := by decide +kernel
theorem dL_isSo_412 : decode cL_isSo 412 = .ok (.iload 10, 2) := by decide +kernel
theorem dL_isSo_414 : decode cL_isSo 414 = .ok (.aload_n 1, 1) := by decide +kernel
theorem dL_isSo_415 : decode cL_isSo 415 = .ok (.iconst 0, 1) := by decide +kernel
theorem dL_isSo_416 : decode cL_isSo 416 = .ok (.iaload, 1) := by decide +kernel
theorem dL_isSo_417 : decode cL_isSo 417 = .ok (.idiv, 1) := by decide +kernel
theorem dL_isSo_418 : decode cL_isSo 418 = .ok (.if_icmp .ne 136, 3) := by decide +kernel
theorem dL_isSo_421 : decode cL_isSo 421 = .ok (.aload_n 0, 1) := by decide +kernel
theorem dL_isSo_422 : decode cL_isSo 422 = .ok (.iload 10, 2) := by decide +kernel
theorem dL_isSo_424 : decode cL_isSo 424 = .ok (.iconst 2, 1) := by decide +kernel
theorem dL_isSo_425 : decode cL_isSo 425 = .ok (.invokevirtual 116, 3) := by decide +kernel
theorem dL_isSo_428 : decode cL_isSo 428 = .ok (.iload 11, 2) := by decide +kernel
theorem dL_isSo_430 : decode cL_isSo 430 = .ok (.if_icmp .ne 124, 3) := by decide +kernel
theorem dL_isSo_433 : decode cL_isSo 433 = .ok (.aload_n 0, 1) := by decide +kernel
theorem dL_isSo_434 : decode cL_isSo 434 = .ok (.iload 10, 2) := by decide +kernel
theorem dL_isSo_436 : decode cL_isSo 436 = .ok (.iconst 3, 1) := by decide +kernel
theorem dL_isSo_437 : decode cL_isSo 437 = .ok (.invokevirtual 116, 3) := by decide +kernel
theorem dL_isSo_440 : decode cL_isSo 440 = .ok (.iload 12, 2) := by decide +kernel
theorem dL_isSo_442 : decode cL_isSo 442 = .ok (.if_icmp .ne 112, 3) := by decide +kernel
theorem dL_isSo_445 : decode cL_isSo 445 = .ok (.aload_n 0, 1) := by decide +kernel
theorem dL_isSo_446 : decode cL_isSo 446 = .ok (.iload 10, 2) := by decide +kernel
theorem dL_isSo_448 : decode cL_isSo 448 = .ok (.iconst 4, 1) := by decide +kernel
theorem dL_isSo_449 : decode cL_isSo 449 = .ok (.invokevirtual 116, 3) := by decide +kernel
theorem dL_isSo_452 : decode cL_isSo 452 = .ok (.aload_n 2, 1) := by decide +kernel
theorem dL_isSo_453 : decode cL_isSo 453 = .ok (.iload 10, 2) := by decide +kernel
theorem dL_isSo_455 : decode cL_isSo 455 = .ok (.iaload, 1) := by decide +kernel
theorem dL_isSo_456 : decode cL_isSo 456 = .ok (.if_icmp .ne 98, 3) := by decide +kernel
theorem dL_isSo_459 : decode cL_isSo 459 = .ok (.aload_n 0, 1) := by decide +kernel
theorem dL_isSo_460 : decode cL_isSo 460 = .ok (.iload 10, 2) := by decide +kernel
theorem dL_isSo_462 : decode cL_isSo 462 = .ok (.iconst 5, 1) := by decide +kernel
theorem dL_isSo_463 : decode cL_isSo 463 = .ok (.invokevirtual 116, 3) := by decide +kernel
theorem dL_isSo_466 : decode cL_isSo 466 = .ok (.aload_n 2, 1) := by decide +kernel
theorem dL_isSo_467 : decode cL_isSo 467 = .ok (.bipush 6, 2) := by decide +kernel
theorem dL_isSo_469 : decode cL_isSo 469 = .ok (.iload 10, 2) := by decide +kernel
theorem dL_isSo_471 : decode cL_isSo 471 = .ok (.iadd, 1) := by decide +kernel
theorem dL_isSo_472 : decode cL_isSo 472 = .ok (.iaload, 1) := by decide +kernel
theorem dL_isSo_473 : decode cL_isSo 473 = .ok (.if_icmp .ne 81, 3) := by decide +kernel
theorem dL_isSo_476 : decode cL_isSo 476 = .ok (.aload_n 0, 1) := by decide +kernel
theorem dL_isSo_477 : decode cL_isSo 477 = .ok (.iload 10, 2) := by decide +kernel
theorem dL_isSo_479 : decode cL_isSo 479 = .ok (.bipush 6, 2) := by decide +kernel
theorem dL_isSo_481 : decode cL_isSo 481 = .ok (.invokevirtual 116, 3) := by decide +kernel
theorem dL_isSo_484 : decode cL_isSo 484 = .ok (.aload_n 2, 1) := by decide +kernel
theorem dL_isSo_485 : decode cL_isSo 485 = .ok (.bipush 6, 2) := by decide +kernel
theorem dL_isSo_487 : decode cL_isSo 487 = .ok (.iload 10, 2) := by decide +kernel
theorem dL_isSo_489 : decode cL_isSo 489 = .ok (.iadd, 1) := by decide +kernel
theorem dL_isSo_490 : decode cL_isSo 490 = .ok (.iaload, 1) := by decide +kernel
theorem dL_isSo_491 : decode cL_isSo 491 = .ok (.aload_n 2, 1) := by decide +kernel
theorem dL_isSo_492 : decode cL_isSo 492 = .ok (.iload 10, 2) := by decide +kernel
theorem dL_isSo_494 : decode cL_isSo 494 = .ok (.iaload, 1) := by decide +kernel
theorem dL_isSo_495 : decode cL_isSo 495 = .ok (.if_icmp .ne 7, 3) := by decide +kernel
theorem dL_isSo_498 : decode cL_isSo 498 = .ok (.iconst 1, 1) := by decide +kernel
theorem dL_isSo_499 : decode cL_isSo 499 = .ok (.goto 4, 3) := by decide +kernel
theorem dL_isSo_502 : decode cL_isSo 502 = .ok (.iconst 0, 1) := by decide +kernel
theorem dL_isSo_503 : decode cL_isSo 503 = .ok (.if_icmp .ne 51, 3) := by decide +kernel
