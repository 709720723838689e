theorem dL_areEdges_60 : decode cL_areEdges 60 = .ok (.iload 9, 2) := by decide +kernel
theorem dL_areEdges_62 : decode cL_areEdges 62 = .ok (.bipush 10, 2) := by decide +kernel
theorem dL_areEdges_64 : decode cL_areEdges 64 = .ok (.if_icmp .ge 7, 3) := by decide +kernel
theorem dL_areEdges_67 : decode cL_areEdges 67 = .ok (.iconst 1, 1) := by decide +kernel
theorem dL_areEdges_68 : decode cL_areEdges 68 = .ok (.goto 4, 3) := by decide +kernel
theorem dL_areEdges_71 : decode cL_areEdges 71 = .ok (.iconst 2, 1) := by decide +kernel
theorem dL_areEdges_72 : decode cL_areEdges 72 = .ok (.iload 12, 2) := by decide +kernel
theorem dL_areEdges_74 : decode cL_areEdges 74 = .ok (.invokestatic 19, 3) := by decide +kernel
theorem dL_areEdges_77 : decode cL_areEdges 77 = .ok (.istore 13, 2) := by decide +kernel
theorem dL_areEdges_79 : decode cL_areEdges 79 = .ok (.aload_n 2, 1) := by decide +kernel
theorem dL_areEdges_80 : decode cL_areEdges 80 = .ok (.aload_n 3, 1) := by decide +kernel
theorem dL_areEdges_81 : decode cL_areEdges 81 = .ok (.aload_n 1, 1) := by decide +kernel
theorem dL_areEdges_82 : decode cL_areEdges 82 = .ok (.iload 9, 2) := by decide +kernel
theorem dL_areEdges_84 : decode cL_areEdges 84 = .ok (.invokestatic 23, 3) := by decide +kernel
theorem dL_areEdges_87 : decode cL_areEdges 87 = .ok (.iload 9, 2) := by decide +kernel
theorem dL_areEdges_89 : decode cL_areEdges 89 = .ok (.bipush 10, 2) := by decide +kernel
theorem dL_areEdges_91 : decode cL_areEdges 91 = .ok (.if_icmp .ge 7, 3) := by decide +kernel
theorem dL_areEdges_94 : decode cL_areEdges 94 = .ok (.iconst 3, 1) := by decide +kernel
theorem dL_areEdges_95 : decode cL_areEdges 95 = .ok (.goto 4, 3) := by decide +kernel
theorem dL_areEdges_98 : decode cL_areEdges 98 = .ok (.iconst 0, 1) := by decide +kernel
theorem dL_areEdges_99 : decode cL_areEdges 99 = .ok (.iload 12, 2) := by decide +kernel
theorem dL_areEdges_101 : decode cL_areEdges 101 = .ok (.invokestatic 19, 3) := by decide +kernel
theorem dL_areEdges_104 : decode cL_areEdges 104 = .ok (.istore 14, 2) := by decide +kernel
theorem dL_areEdges_106 : decode cL_areEdges 106 = .ok (.aload_n 1, 1) := by decide +kernel
theorem dL_areEdges_107 : decode cL_areEdges 107 = .ok (.aload_n 2, 1) := by decide +kernel
theorem dL_areEdges_108 : decode cL_areEdges 108 = .ok (.aload_n 3, 1) := by decide +kernel
theorem dL_areEdges_109 : decode cL_areEdges 109 = .ok (.iload 9, 2) := by decide +kernel
theorem dL_areEdges_111 : decode cL_areEdges 111 = .ok (.iload 12, 2) := by decide +kernel
theorem dL_areEdges_113 : decode cL_areEdges 113 = .ok (.invokestatic 27, 3) := by decide +kernel
theorem dL_areEdges_116 : decode cL_areEdges 116 = .ok (.istore 15, 2) := by decide +kernel
theorem dL_areEdges_118 : decode cL_areEdges 118 = .ok (.iload 11, 2) := by decide +kernel
theorem dL_areEdges_120 : decode cL_areEdges 120 = .ok (.iload 13, 2) := by decide +kernel
theorem dL_areEdges_122 : decode cL_areEdges 122 = .ok (.bipush 10, 2) := by decide +kernel
theorem dL_areEdges_124 : decode cL_areEdges 124 = .ok (.if_icmp .ge 14, 3) := by decide +kernel
theorem dL_areEdges_127 : decode cL_areEdges 127 = .ok (.iload 14, 2) := by decide +kernel
theorem dL_areEdges_129 : decode cL_areEdges 129 = .ok (.bipush 10, 2) := by decide +kernel
theorem dL_areEdges_131 : decode cL_areEdges 131 = .ok (.if_icmp .ge 7, 3) := by decide +kernel
theorem dL_areEdges_134 : decode cL_areEdges 134 = .ok (.iconst 1, 1) := by decide +kernel
theorem dL_areEdges_135 : decode cL_areEdges 135 = .ok (.goto 4, 3) := by decide +kernel
theorem dL_areEdges_138 : decode cL_areEdges 138 = .ok (.iconst 0, 1) := by decide +kernel
theorem dL_areEdges_139 : decode cL_areEdges 139 = .ok (.iadd, 1) := by decide +kernel
theorem dL_areEdges_140 : decode cL_areEdges 140 = .ok (.istore 11, 2) := by decide +kernel
theorem dL_areEdges_142 : decode cL_areEdges 142 = .ok (.iload 15, 2) := by decide +kernel
theorem dL_areEdges_144 : decode cL_areEdges 144 = .ok (.ifCond .le 98, 3) := by decide +kernel
theorem dL_areEdges_147 : decode cL_areEdges 147 = .ok (.iload 8, 2) := by decide +kernel
theorem dL_areEdges_149 : decode cL_areEdges 149 = .ok (.ifCond .eq 87, 3) := by decide +kernel
theorem dL_areEdges_152 : decode cL_areEdges 152 = .ok (.aload_n 0, 1) := by decide +kernel
theorem dL_areEdges_153 : decode cL_areEdges 153 = .ok (.iload 4, 2) := by decide +kernel
theorem dL_areEdges_155 : decode cL_areEdges 155 = .ok (.iload 10, 2) := by decide +kernel
theorem dL_areEdges_157 : decode cL_areEdges 157 = .ok (.iconst 0, 1) := by decide +kernel
theorem dL_areEdges_158 : decode cL_areEdges 158 = .ok (.invokevirtual 100, 3) := by decide +kernel
theorem dL_areEdges_161 : decode cL_areEdges 161 = .ok (.iload 12, 2) := by decide +kernel
theorem dL_areEdges_163 : decode cL_areEdges 163 = .ok (.if_icmp .ne 73, 3) := by decide +kernel
theorem dL_areEdges_166 : decode cL_areEdges 166 = .ok (.aload_n 0, 1) := by decide +kernel
theorem dL_areEdges_167 : decode cL_areEdges 167 = .ok (.iload 4, 2) := by decide +kernel
theorem dL_areEdges_169 : decode cL_areEdges 169 = .ok (.iload 10, 2) := by decide +kernel
theorem dL_areEdges_171 : decode cL_areEdges 171 = .ok (.iconst 1, 1) := by decide +kernel
theorem dL_areEdges_172 : decode cL_areEdges 172 = .ok (.invokevirtual 100, 3) := by decide +kernel
theorem dL_areEdges_175 : decode cL_areEdges 175 = .ok (.iload 15, 2) := by decide +kernel
theorem dL_areEdges_177 : decode cL_areEdges 177 = .ok (.if_icmp .ne 59, 3) := by decide +kernel
theorem dL_areEdges_180 : decode cL_areEdges 180 = .ok (.aload_n 0, 1) := by decide +kernel
theorem dL_areEdges_181 : decode cL_areEdges 181 = .ok (.iload 4, 2) := by decide +kernel
theorem dL_areEdges_183 : decode cL_areEdges 183 = .ok (.iload 10, 2) := by decide +kernel
theorem dL_areEdges_185 : decode cL_areEdges 185 = .ok (.iconst 2, 1) := by decide +kernel
theorem dL_areEdges_186 : decode cL_areEdges 186 = .ok (.invokevirtual 100, 3) := by decide +kernel
theorem dL_areEdges_189 : decode cL_areEdges 189 = .ok (.iload 13, 2) := by decide +kernel
theorem dL_areEdges_191 : decode cL_areEdges 191 = .ok (.bipush 10, 2) := by decide +kernel
theorem dL_areEdges_193 : decode cL_areEdges 193 = .ok (.if_icmp .ne 8, 3) := by decide +kernel
theorem dL_areEdges_196 : decode cL_areEdges 196 = .ok (.bipush (-4), 2) := by decide +kernel
theorem dL_areEdges_198 : decode cL_areEdges 198 = .ok (.goto 5, 3) := by decide +kernel
theorem dL_areEdges_201 : decode cL_areEdges 201 = .ok (.iload 13, 2) := by decide +kernel
theorem dL_areEdges_203 : decode cL_areEdges 203 = .ok (.if_icmp .ne 33, 3) := by decide +kernel
theorem dL_areEdges_206 : decode cL_areEdges 206 = .ok (.aload_n 0, 1) := by decide +kernel
theorem dL_areEdges_207 : decode cL_areEdges 207 = .ok (.iload 4, 2) := by decide +kernel
theorem dL_areEdges_209 : decode cL_areEdges 209 = .ok (.iload 10, 2) := by decide +kernel
theorem dL_areEdges_211 : decode cL_areEdges 211 = .ok (.iconst 3, 1) := by decide +kernel
theorem dL_areEdges_212 : decode cL_areEdges 212 = .ok (.invokevirtual 100, 3) := by decide +kernel
theorem dL_areEdges_215 : decode cL_areEdges 215 = .ok (.iload 14, 2) := by decide +kernel
theorem dL_areEdges_217 : decode cL_areEdges 217 = .ok (.bipush 10, 2) := by decide +kernel
theorem dL_areEdges_219 : decode cL_areEdges 219 = .ok (.if_icmp .ne 8, 3) := by decide +kernel
theorem dL_areEdges_222 : decode cL_areEdges 222 = .ok (.bipush (-4), 2) := by decide +kernel
theorem dL_areEdges_224 : decode cL_areEdges 224 = .ok (.goto 5, 3) := by decide +kernel
theorem dL_areEdges_227 : decode cL_areEdges 227 = .ok (.iload 14, 2) := by decide +kernel
theorem dL_areEdges_229 : decode cL_areEdges 229 = .ok (.if_icmp .ne 7, 3) := by decide +kernel
theorem dL_areEdges_232 : decode cL_areEdges 232 = .ok (.iconst 1, 1) := by decide +kernel
theorem dL_areEdges_233 : decode cL_areEdges 233 = .ok (.goto 4, 3) := by decide +kernel
theorem dL_areEdges_236 : decode cL_areEdges 236 = .ok (.iconst 0, 1) := by decide +kernel
theorem dL_areEdges_237 : decode cL_areEdges 237 = .ok (.istore 8, 2) := by decide +kernel
theorem dL_areEdges_239 : decode cL_areEdges 239 = .ok (.iinc 10 1, 3) := by decide +kernel
theorem dL_areEdges_242 : decode cL_areEdges 242 = .ok (.iinc 12 1, 3) := by decide +kernel
theorem dL_areEdges_245 : decode cL_areEdges 245 = .ok (.goto (-199), 3) := by decide +kernel
theorem dL_areEdges_248 : decode cL_areEdges 248 = .ok (.iload 8, 2) := by decide +kernel
theorem dL_areEdges_250 : decode cL_areEdges 250 = .ok (.ifCond .eq 131, 3) := by decide +kernel
theorem dL_areEdges_253 : decode cL_areEdges 253 = .ok (.aload_n 0, 1) := by decide +kernel
theorem dL_areEdges_254 : decode cL_areEdges 254 = .ok (.iload 4, 2) := by decide +kernel
theorem dL_areEdges_256 : decode cL_areEdges 256 = .ok (.iload 10, 2) := by decide +kernel
theorem dL_areEdges_258 : decode cL_areEdges 258 = .ok (.iconst 0, 1) := by decide +kernel
theorem dL_areEdges_259 : decode cL_areEdges 259 = .ok (.invokevirtual 100, 3) := by decide +kernel
theorem dL_areEdges_262 : decode cL_areEdges 262 = .ok (.bipush (-4), 2) := by decide +kernel
theorem dL_areEdges_264 : decode cL_areEdges 264 = .ok (.if_icmp .ne 117, 3) := by decide +kernel
theorem dL_areEdges_267 : decode cL_areEdges 267 = .ok (.aload_n 0, 1) := by decide +kernel
theorem dL_areEdges_268 : decode cL_areEdges 268 = .ok (.iload 4, 2) := by decide +kernel
theorem dL_areEdges_270 : decode cL_areEdges 270 = .ok (.iconst 0, 1) := by decide +kernel
theorem dL_areEdges_271 : decode cL_areEdges 271 = .ok (.invokevirtual 103, 3) := by decide +kernel
theorem dL_areEdges_274 : decode cL_areEdges 274 = .ok (.iload 9, 2) := by decide +kernel
theorem dL_areEdges_276 : decode cL_areEdges 276 = .ok (.bipush 10, 2) := by decide +kernel
theorem dL_areEdges_278 : decode cL_areEdges 278 = .ok (.irem, 1) := by decide +kernel
theorem dL_areEdges_279 : decode cL_areEdges 279 = .ok (.if_icmp .ne 102, 3) := by decide +kernel
theorem dL_areEdges_282 : decode cL_areEdges 282 = .ok (.aload_n 0, 1) := by decide +kernel
theorem dL_areEdges_283 : decode cL_areEdges 283 = .ok (.iload 4, 2) := by decide +kernel
theorem dL_areEdges_285 : decode cL_areEdges 285 = .ok (.iconst 1, 1) := by decide +kernel
theorem dL_areEdges_286 : decode cL_areEdges 286 = .ok (.invokevirtual 103, 3) := by decide +kernel
theorem dL_areEdges_289 : decode cL_areEdges 289 = .ok (.aload_n 1, 1) := by decide +kernel
theorem dL_areEdges_290 : decode cL_areEdges 290 = .ok (.iload 9, 2) := by decide +kernel
theorem dL_areEdges_292 : decode cL_areEdges 292 = .ok (.invokestatic 23, 3) := by decide +kernel
theorem dL_areEdges_295 : decode cL_areEdges 295 = .ok (.if_icmp .ne 86, 3) := by decide +kernel
theorem dL_areEdges_298 : decode cL_areEdges 298 = .ok (.aload_n 0, 1) := by decide +kernel
theorem dL_areEdges_299 : decode cL_areEdges 299 = .ok (.iload 4, 2) := by decide +kernel
theorem dL_areEdges_301 : decode cL_areEdges 301 = .ok (.iconst 2, 1) := by decide +kernel
theorem dL_areEdges_302 : decode cL_areEdges 302 = .ok (.invokevirtual 103, 3) := by decide +kernel
theorem dL_areEdges_305 : decode cL_areEdges 305 = .ok (.iload 9, 2) := by decide +kernel
theorem dL_areEdges_307 : decode cL_areEdges 307 = .ok (.bipush 10, 2) := by decide +kernel
theorem dL_areEdges_309 : decode cL_areEdges 309 = .ok (.if_icmp .ge 7, 3) := by decide +kernel
theorem dL_areEdges_312 : decode cL_areEdges 312 = .ok (.iconst 1, 1) := by decide +kernel
theorem dL_areEdges_313 : decode cL_areEdges 313 = .ok (.goto 4, 3) := by decide +kernel
theorem dL_areEdges_316 : decode cL_areEdges 316 = .ok (.iconst 2, 1) := by decide +kernel
theorem dL_areEdges_317 : decode cL_areEdges 317 = .ok (.if_icmp .ne 64, 3) := by decide +kernel
theorem dL_areEdges_320 : decode cL_areEdges 320 = .ok (.aload_n 0, 1) := by decide +kernel
theorem dL_areEdges_321 : decode cL_areEdges 321 = .ok (.iload 4, 2) := by decide +kernel
theorem dL_areEdges_323 : decode cL_areEdges 323 = .ok (.iconst 3, 1) := by decide +kernel
theorem dL_areEdges_324 : decode cL_areEdges 324 = .ok (.invokevirtual 103, 3) := by decide +kernel
theorem dL_areEdges_327 : decode cL_areEdges 327 = .ok (.aload_n 1, 1) := by decide +kernel
theorem dL_areEdges_328 : decode cL_areEdges 328 = .ok (.iconst 4, 1) := by decide +kernel
theorem dL_areEdges_329 : decode cL_areEdges 329 = .ok (.iaload, 1) := by decide +kernel
theorem dL_areEdges_330 : decode cL_areEdges 330 = .ok (.iload 4, 2) := by decide +kernel
theorem dL_areEdges_332 : decode cL_areEdges 332 = .ok (.ishr, 1) := by decide +kernel
theorem dL_areEdges_333 : decode cL_areEdges 333 = .ok (.iconst 1, 1) := by decide +kernel
theorem dL_areEdges_334 : decode cL_areEdges 334 = .ok (.iand, 1) := by decide +kernel
theorem dL_areEdges_335 : decode cL_areEdges 335 = .ok (.if_icmp .ne 46, 3) := by decide +kernel
theorem dL_areEdges_338 : decode cL_areEdges 338 = .ok (.aload_n 0, 1) := by decide +kernel
theorem dL_areEdges_339 : decode cL_areEdges 339 = .ok (.iload 4, 2) := by decide +kernel
theorem dL_areEdges_341 : decode cL_areEdges 341 = .ok (.iconst 4, 1) := by decide +kernel
theorem dL_areEdges_342 : decode cL_areEdges 342 = .ok (.invokevirtual 103, 3) := by decide +kernel
theorem dL_areEdges_345 : decode cL_areEdges 345 = .ok (.iload 10, 2) := by decide +kernel
theorem dL_areEdges_347 : decode cL_areEdges 347 = .ok (.if_icmp .ne 34, 3) := by decide +kernel
theorem dL_areEdges_350 : decode cL_areEdges 350 = .ok (.aload_n 0, 1) := by decide +kernel
theorem dL_areEdges_351 : decode cL_areEdges 351 = .ok (.iload 4, 2) := by decide +kernel
theorem dL_areEdges_353 : decode cL_areEdges 353 = .ok (.iconst 5, 1) := by decide +kernel
theorem dL_areEdges_354 : decode cL_areEdges 354 = .ok (.invokevirtual 103, 3) := by decide +kernel
theorem dL_areEdges_357 : decode cL_areEdges 357 = .ok (.iload 11, 2) := by decide +kernel
theorem dL_areEdges_359 : decode cL_areEdges 359 = .ok (.if_icmp .ne 22, 3) := by decide +kernel
theorem dL_areEdges_362 : decode cL_areEdges 362 = .ok (.iload 10, 2) := by decide +kernel
theorem dL_areEdges_364 : decode cL_areEdges 364 = .ok (.ifCond .eq 13, 3) := by decide +kernel
theorem dL_areEdges_367 : decode cL_areEdges 367 = .ok (.aload_n 0, 1) := by decide +kernel
theorem dL_areEdges_368 : decode cL_areEdges 368 = .ok (.iload 4, 2) := by decide +kernel
theorem dL_areEdges_370 : decode cL_areEdges 370 = .ok (.iconst 3, 1) := by decide +kernel
theorem dL_areEdges_371 : decode cL_areEdges 371 = .ok (.invokevirtual 103, 3) := by decide +kernel
theorem dL_areEdges_374 : decode cL_areEdges 374 = .ok (.ifCond .ne 7, 3) := by decide +kernel
theorem dL_areEdges_377 : decode cL_areEdges 377 = .ok (.iconst 1, 1) := by decide +kernel
theorem dL_areEdges_378 : decode cL_areEdges 378 = .ok (.goto 4, 3) := by decide +kernel
theorem dL_areEdges_381 : decode cL_areEdges 381 = .ok (.iconst 0, 1) := by decide +kernel
theorem dL_areEdges_382 : decode cL_areEdges 382 = .ok (.istore 8, 2) := by decide +kernel
theorem dL_areEdges_384 : decode cL_areEdges 384 = .ok (.iload 5, 2) := by decide +kernel
theorem dL_areEdges_386 : decode cL_areEdges 386 = .ok (.iload 10, 2) := by decide +kernel
theorem dL_areEdges_388 : decode cL_areEdges 388 = .ok (.ifCond .ne 7, 3) := by decide +kernel
theorem dL_areEdges_391 : decode cL_areEdges 391 = .ok (.iconst 1, 1) := by decide +kernel
