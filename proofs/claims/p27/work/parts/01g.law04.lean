theorem dL_acts_70 : decode cL_acts 70 = .ok (.goto (-12), 3) := by decide +kernel
theorem dL_acts_73 : decode cL_acts 73 = .ok (.iload 12, 2) := by decide +kernel
theorem dL_acts_75 : decode cL_acts 75 = .ok (.ifCond .ne 7, 3) := by decide +kernel
theorem dL_acts_78 : decode cL_acts 78 = .ok (.iconst 0, 1) := by decide +kernel
theorem dL_acts_79 : decode cL_acts 79 = .ok (.goto 10, 3) := by decide +kernel
theorem dL_acts_82 : decode cL_acts 82 = .ok (.iload 6, 2) := by decide +kernel
theorem dL_acts_84 : decode cL_acts 84 = .ok (.iconst 5, 1) := by decide +kernel
theorem dL_acts_85 : decode cL_acts 85 = .ok (.idiv, 1) := by decide +kernel
theorem dL_acts_86 : decode cL_acts 86 = .ok (.iload 12, 2) := by decide +kernel
theorem dL_acts_88 : decode cL_acts 88 = .ok (.irem, 1) := by decide +kernel
theorem dL_acts_89 : decode cL_acts 89 = .ok (.istore 13, 2) := by decide +kernel
theorem dL_acts_91 : decode cL_acts 91 = .ok (.aload_n 1, 1) := by decide +kernel
theorem dL_acts_92 : decode cL_acts 92 = .ok (.iload 13, 2) := by decide +kernel
theorem dL_acts_94 : decode cL_acts 94 = .ok (.invokestatic 31, 3) := by decide +kernel
theorem dL_acts_97 : decode cL_acts 97 = .ok (.istore 14, 2) := by decide +kernel
theorem dL_acts_99 : decode cL_acts 99 = .ok (.iload 5, 2) := by decide +kernel
theorem dL_acts_101 : decode cL_acts 101 = .ok (.bipush 24, 2) := by decide +kernel
theorem dL_acts_103 : decode cL_acts 103 = .ok (.invokestatic 45, 3) := by decide +kernel
theorem dL_acts_106 : decode cL_acts 106 = .ok (.tableswitch 1299 0 20 #[98, 187, 252, 252, 252, 252, 252, 252, 358, 358, 468, 468, 571, 571, 571, 571, 651, 759, 759, 759, 1187], 98) := by decide +kernel
theorem dL_acts_204 : decode cL_acts 204 = .ok (.iload 6, 2) := by decide +kernel
theorem dL_acts_206 : decode cL_acts 206 = .ok (.bipush 8, 2) := by decide +kernel
theorem dL_acts_208 : decode cL_acts 208 = .ok (.irem, 1) := by decide +kernel
theorem dL_acts_209 : decode cL_acts 209 = .ok (.ifCond .le 20, 3) := by decide +kernel
theorem dL_acts_212 : decode cL_acts 212 = .ok (.aload_n 0, 1) := by decide +kernel
theorem dL_acts_213 : decode cL_acts 213 = .ok (.iconst 3, 1) := by decide +kernel
theorem dL_acts_214 : decode cL_acts 214 = .ok (.bipush 7, 2) := by decide +kernel
theorem dL_acts_216 : decode cL_acts 216 = .ok (.invokevirtual 49, 3) := by decide +kernel
theorem dL_acts_219 : decode cL_acts 219 = .ok (.iconst (-1), 1) := by decide +kernel
theorem dL_acts_220 : decode cL_acts 220 = .ok (.if_icmp .ne 7, 3) := by decide +kernel
theorem dL_acts_223 : decode cL_acts 223 = .ok (.iconst 1, 1) := by decide +kernel
theorem dL_acts_224 : decode cL_acts 224 = .ok (.goto 4, 3) := by decide +kernel
theorem dL_acts_227 : decode cL_acts 227 = .ok (.iconst 0, 1) := by decide +kernel
theorem dL_acts_228 : decode cL_acts 228 = .ok (.ireturn, 1) := by decide +kernel
theorem dL_acts_229 : decode cL_acts 229 = .ok (.aload_n 1, 1) := by decide +kernel
theorem dL_acts_230 : decode cL_acts 230 = .ok (.aload_n 2, 1) := by decide +kernel
theorem dL_acts_231 : decode cL_acts 231 = .ok (.aload_n 3, 1) := by decide +kernel
theorem dL_acts_232 : decode cL_acts 232 = .ok (.aload 4, 2) := by decide +kernel
theorem dL_acts_234 : decode cL_acts 234 = .ok (.iconst 1, 1) := by decide +kernel
theorem dL_acts_235 : decode cL_acts 235 = .ok (.iload 6, 2) := by decide +kernel
theorem dL_acts_237 : decode cL_acts 237 = .ok (.bipush 8, 2) := by decide +kernel
theorem dL_acts_239 : decode cL_acts 239 = .ok (.idiv, 1) := by decide +kernel
theorem dL_acts_240 : decode cL_acts 240 = .ok (.iconst 3, 1) := by decide +kernel
theorem dL_acts_241 : decode cL_acts 241 = .ok (.irem, 1) := by decide +kernel
theorem dL_acts_242 : decode cL_acts 242 = .ok (.iadd, 1) := by decide +kernel
theorem dL_acts_243 : decode cL_acts 243 = .ok (.iconst 1, 1) := by decide +kernel
theorem dL_acts_244 : decode cL_acts 244 = .ok (.iload 6, 2) := by decide +kernel
theorem dL_acts_246 : decode cL_acts 246 = .ok (.bipush 24, 2) := by decide +kernel
theorem dL_acts_248 : decode cL_acts 248 = .ok (.idiv, 1) := by decide +kernel
theorem dL_acts_249 : decode cL_acts 249 = .ok (.iconst 2, 1) := by decide +kernel
theorem dL_acts_250 : decode cL_acts 250 = .ok (.irem, 1) := by decide +kernel
theorem dL_acts_251 : decode cL_acts 251 = .ok (.iadd, 1) := by decide +kernel
theorem dL_acts_252 : decode cL_acts 252 = .ok (.invokestatic 54, 3) := by decide +kernel
theorem dL_acts_255 : decode cL_acts 255 = .ok (.aload_n 0, 1) := by decide +kernel
theorem dL_acts_256 : decode cL_acts 256 = .ok (.aload_n 1, 1) := by decide +kernel
theorem dL_acts_257 : decode cL_acts 257 = .ok (.iconst 0, 1) := by decide +kernel
theorem dL_acts_258 : decode cL_acts 258 = .ok (.iaload, 1) := by decide +kernel
theorem dL_acts_259 : decode cL_acts 259 = .ok (.aload_n 1, 1) := by decide +kernel
theorem dL_acts_260 : decode cL_acts 260 = .ok (.iconst 1, 1) := by decide +kernel
theorem dL_acts_261 : decode cL_acts 261 = .ok (.iaload, 1) := by decide +kernel
theorem dL_acts_262 : decode cL_acts 262 = .ok (.invokevirtual 49, 3) := by decide +kernel
theorem dL_acts_265 : decode cL_acts 265 = .ok (.aload_n 1, 1) := by decide +kernel
theorem dL_acts_266 : decode cL_acts 266 = .ok (.iconst 0, 1) := by decide +kernel
theorem dL_acts_267 : decode cL_acts 267 = .ok (.iaload, 1) := by decide +kernel
theorem dL_acts_268 : decode cL_acts 268 = .ok (.iconst 1, 1) := by decide +kernel
theorem dL_acts_269 : decode cL_acts 269 = .ok (.isub, 1) := by decide +kernel
theorem dL_acts_270 : decode cL_acts 270 = .ok (.aload_n 1, 1) := by decide +kernel
theorem dL_acts_271 : decode cL_acts 271 = .ok (.iconst 1, 1) := by decide +kernel
theorem dL_acts_272 : decode cL_acts 272 = .ok (.iaload, 1) := by decide +kernel
theorem dL_acts_273 : decode cL_acts 273 = .ok (.imul, 1) := by decide +kernel
theorem dL_acts_274 : decode cL_acts 274 = .ok (.aload_n 1, 1) := by decide +kernel
theorem dL_acts_275 : decode cL_acts 275 = .ok (.iconst 0, 1) := by decide +kernel
theorem dL_acts_276 : decode cL_acts 276 = .ok (.iaload, 1) := by decide +kernel
theorem dL_acts_277 : decode cL_acts 277 = .ok (.aload_n 1, 1) := by decide +kernel
theorem dL_acts_278 : decode cL_acts 278 = .ok (.iconst 1, 1) := by decide +kernel
theorem dL_acts_279 : decode cL_acts 279 = .ok (.iaload, 1) := by decide +kernel
theorem dL_acts_280 : decode cL_acts 280 = .ok (.iconst 1, 1) := by decide +kernel
theorem dL_acts_281 : decode cL_acts 281 = .ok (.isub, 1) := by decide +kernel
theorem dL_acts_282 : decode cL_acts 282 = .ok (.imul, 1) := by decide +kernel
theorem dL_acts_283 : decode cL_acts 283 = .ok (.iadd, 1) := by decide +kernel
theorem dL_acts_284 : decode cL_acts 284 = .ok (.if_icmp .ne 7, 3) := by decide +kernel
theorem dL_acts_287 : decode cL_acts 287 = .ok (.iconst 1, 1) := by decide +kernel
theorem dL_acts_288 : decode cL_acts 288 = .ok (.goto 4, 3) := by decide +kernel
theorem dL_acts_291 : decode cL_acts 291 = .ok (.iconst 0, 1) := by decide +kernel
theorem dL_acts_292 : decode cL_acts 292 = .ok (.ireturn, 1) := by decide +kernel
theorem dL_acts_293 : decode cL_acts 293 = .ok (.iload 6, 2) := by decide +kernel
theorem dL_acts_295 : decode cL_acts 295 = .ok (.iconst 2, 1) := by decide +kernel
theorem dL_acts_296 : decode cL_acts 296 = .ok (.irem, 1) := by decide +kernel
theorem dL_acts_297 : decode cL_acts 297 = .ok (.istore 15, 2) := by decide +kernel
theorem dL_acts_299 : decode cL_acts 299 = .ok (.aload_n 1, 1) := by decide +kernel
theorem dL_acts_300 : decode cL_acts 300 = .ok (.iconst 2, 1) := by decide +kernel
theorem dL_acts_301 : decode cL_acts 301 = .ok (.iload 15, 2) := by decide +kernel
theorem dL_acts_303 : decode cL_acts 303 = .ok (.iadd, 1) := by decide +kernel
theorem dL_acts_304 : decode cL_acts 304 = .ok (.iaload, 1) := by decide +kernel
theorem dL_acts_305 : decode cL_acts 305 = .ok (.istore 16, 2) := by decide +kernel
theorem dL_acts_307 : decode cL_acts 307 = .ok (.aload_n 1, 1) := by decide +kernel
theorem dL_acts_308 : decode cL_acts 308 = .ok (.iconst 2, 1) := by decide +kernel
theorem dL_acts_309 : decode cL_acts 309 = .ok (.iload 15, 2) := by decide +kernel
theorem dL_acts_311 : decode cL_acts 311 = .ok (.iadd, 1) := by decide +kernel
theorem dL_acts_312 : decode cL_acts 312 = .ok (.iload 15, 2) := by decide +kernel
theorem dL_acts_314 : decode cL_acts 314 = .ok (.ifCond .ne 12, 3) := by decide +kernel
theorem dL_acts_317 : decode cL_acts 317 = .ok (.iload 6, 2) := by decide +kernel
theorem dL_acts_319 : decode cL_acts 319 = .ok (.iconst 2, 1) := by decide +kernel
theorem dL_acts_320 : decode cL_acts 320 = .ok (.idiv, 1) := by decide +kernel
theorem dL_acts_321 : decode cL_acts 321 = .ok (.iconst 2, 1) := by decide +kernel
theorem dL_acts_322 : decode cL_acts 322 = .ok (.irem, 1) := by decide +kernel
theorem dL_acts_323 : decode cL_acts 323 = .ok (.goto 11, 3) := by decide +kernel
theorem dL_acts_326 : decode cL_acts 326 = .ok (.iload 6, 2) := by decide +kernel
theorem dL_acts_328 : decode cL_acts 328 = .ok (.iconst 2, 1) := by decide +kernel
theorem dL_acts_329 : decode cL_acts 329 = .ok (.idiv, 1) := by decide +kernel
theorem dL_acts_330 : decode cL_acts 330 = .ok (.sipush 1001, 3) := by decide +kernel
theorem dL_acts_333 : decode cL_acts 333 = .ok (.irem, 1) := by decide +kernel
theorem dL_acts_334 : decode cL_acts 334 = .ok (.iastore, 1) := by decide +kernel
theorem dL_acts_335 : decode cL_acts 335 = .ok (.aload_n 0, 1) := by decide +kernel
theorem dL_acts_336 : decode cL_acts 336 = .ok (.iload 15, 2) := by decide +kernel
theorem dL_acts_338 : decode cL_acts 338 = .ok (.aload_n 1, 1) := by decide +kernel
theorem dL_acts_339 : decode cL_acts 339 = .ok (.iconst 2, 1) := by decide +kernel
theorem dL_acts_340 : decode cL_acts 340 = .ok (.iload 15, 2) := by decide +kernel
theorem dL_acts_342 : decode cL_acts 342 = .ok (.iadd, 1) := by decide +kernel
theorem dL_acts_343 : decode cL_acts 343 = .ok (.iaload, 1) := by decide +kernel
theorem dL_acts_344 : decode cL_acts 344 = .ok (.invokevirtual 58, 3) := by decide +kernel
theorem dL_acts_347 : decode cL_acts 347 = .ok (.iload 16, 2) := by decide +kernel
theorem dL_acts_349 : decode cL_acts 349 = .ok (.if_icmp .ne 7, 3) := by decide +kernel
theorem dL_acts_352 : decode cL_acts 352 = .ok (.iconst 1, 1) := by decide +kernel
theorem dL_acts_353 : decode cL_acts 353 = .ok (.goto 4, 3) := by decide +kernel
theorem dL_acts_356 : decode cL_acts 356 = .ok (.iconst 0, 1) := by decide +kernel
theorem dL_acts_357 : decode cL_acts 357 = .ok (.ireturn, 1) := by decide +kernel
theorem dL_acts_358 : decode cL_acts 358 = .ok (.iload 6, 2) := by decide +kernel
theorem dL_acts_360 : decode cL_acts 360 = .ok (.sipush 240, 3) := by decide +kernel
theorem dL_acts_363 : decode cL_acts 363 = .ok (.idiv, 1) := by decide +kernel
theorem dL_acts_364 : decode cL_acts 364 = .ok (.iload 6, 2) := by decide +kernel
theorem dL_acts_366 : decode cL_acts 366 = .ok (.iconst 3, 1) := by decide +kernel
theorem dL_acts_367 : decode cL_acts 367 = .ok (.irem, 1) := by decide +kernel
theorem dL_acts_368 : decode cL_acts 368 = .ok (.ifCond .ne 8, 3) := by decide +kernel
theorem dL_acts_371 : decode cL_acts 371 = .ok (.bipush 10, 2) := by decide +kernel
theorem dL_acts_373 : decode cL_acts 373 = .ok (.goto 4, 3) := by decide +kernel
theorem dL_acts_376 : decode cL_acts 376 = .ok (.iconst 3, 1) := by decide +kernel
theorem dL_acts_377 : decode cL_acts 377 = .ok (.irem, 1) := by decide +kernel
theorem dL_acts_378 : decode cL_acts 378 = .ok (.istore 17, 2) := by decide +kernel
theorem dL_acts_380 : decode cL_acts 380 = .ok (.aload_n 3, 1) := by decide +kernel
theorem dL_acts_381 : decode cL_acts 381 = .ok (.iload 11, 2) := by decide +kernel
theorem dL_acts_383 : decode cL_acts 383 = .ok (.laload, 1) := by decide +kernel
theorem dL_acts_384 : decode cL_acts 384 = .ok (.lstore 18, 2) := by decide +kernel
theorem dL_acts_386 : decode cL_acts 386 = .ok (.lload 18, 2) := by decide +kernel
theorem dL_acts_388 : decode cL_acts 388 = .ok (.bipush 11, 2) := by decide +kernel
theorem dL_acts_390 : decode cL_acts 390 = .ok (.iload 10, 2) := by decide +kernel
theorem dL_acts_392 : decode cL_acts 392 = .ok (.invokestatic 15, 3) := by decide +kernel
theorem dL_acts_395 : decode cL_acts 395 = .ok (.istore 20, 2) := by decide +kernel
theorem dL_acts_397 : decode cL_acts 397 = .ok (.aload_n 3, 1) := by decide +kernel
theorem dL_acts_398 : decode cL_acts 398 = .ok (.iload 11, 2) := by decide +kernel
theorem dL_acts_400 : decode cL_acts 400 = .ok (.dup2, 1) := by decide +kernel
theorem dL_acts_401 : decode cL_acts 401 = .ok (.laload, 1) := by decide +kernel
theorem dL_acts_402 : decode cL_acts 402 = .ok (.iload 17, 2) := by decide +kernel
theorem dL_acts_404 : decode cL_acts 404 = .ok (.iload 20, 2) := by decide +kernel
theorem dL_acts_406 : decode cL_acts 406 = .ok (.isub, 1) := by decide +kernel
theorem dL_acts_407 : decode cL_acts 407 = .ok (.i2l, 1) := by decide +kernel
theorem dL_acts_408 : decode cL_acts 408 = .ok (.bipush 11, 2) := by decide +kernel
theorem dL_acts_410 : decode cL_acts 410 = .ok (.iload 10, 2) := by decide +kernel
theorem dL_acts_412 : decode cL_acts 412 = .ok (.invokestatic 9, 3) := by decide +kernel
theorem dL_acts_415 : decode cL_acts 415 = .ok (.lmul, 1) := by decide +kernel
theorem dL_acts_416 : decode cL_acts 416 = .ok (.ladd, 1) := by decide +kernel
theorem dL_acts_417 : decode cL_acts 417 = .ok (.lastore, 1) := by decide +kernel
theorem dL_acts_418 : decode cL_acts 418 = .ok (.aload_n 0, 1) := by decide +kernel
theorem dL_acts_419 : decode cL_acts 419 = .ok (.iload 8, 2) := by decide +kernel
theorem dL_acts_421 : decode cL_acts 421 = .ok (.iload 9, 2) := by decide +kernel
theorem dL_acts_423 : decode cL_acts 423 = .ok (.iload 10, 2) := by decide +kernel
theorem dL_acts_425 : decode cL_acts 425 = .ok (.iload 17, 2) := by decide +kernel
