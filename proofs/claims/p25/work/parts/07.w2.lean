theorem dL_isTold_159 : decode cL_isTold 159 = .ok (.iconst 0, 1) := by decide +kernel
theorem dL_isTold_160 : decode cL_isTold 160 = .ok (.istore 11, 2) := by decide +kernel
theorem dL_isTold_162 : decode cL_isTold 162 = .ok (.iload 11, 2) := by decide +kernel
theorem dL_isTold_164 : decode cL_isTold 164 = .ok (.iconst 3, 1) := by decide +kernel
theorem dL_isTold_165 : decode cL_isTold 165 = .ok (.if_icmp .ge 106, 3) := by decide +kernel
theorem dL_isTold_168 : decode cL_isTold 168 = .ok (.aload_n 2, 1) := by decide +kernel
theorem dL_isTold_169 : decode cL_isTold 169 = .ok (.aload_n 1, 1) := by decide +kernel
theorem dL_isTold_170 : decode cL_isTold 170 = .ok (.iload 8, 2) := by decide +kernel
theorem dL_isTold_172 : decode cL_isTold 172 = .ok (.iaload, 1) := by decide +kernel
theorem dL_isTold_173 : decode cL_isTold 173 = .ok (.iload 11, 2) := by decide +kernel
theorem dL_isTold_175 : decode cL_isTold 175 = .ok (.invokestatic 70, 3) := by decide +kernel
theorem dL_isTold_178 : decode cL_isTold 178 = .ok (.istore 12, 2) := by decide +kernel
theorem dL_isTold_180 : decode cL_isTold 180 = .ok (.aload 6, 2) := by decide +kernel
theorem dL_isTold_182 : decode cL_isTold 182 = .ok (.iload 11, 2) := by decide +kernel
theorem dL_isTold_184 : decode cL_isTold 184 = .ok (.dup2, 1) := by decide +kernel
theorem dL_isTold_185 : decode cL_isTold 185 = .ok (.iaload, 1) := by decide +kernel
theorem dL_isTold_186 : decode cL_isTold 186 = .ok (.iload 10, 2) := by decide +kernel
theorem dL_isTold_188 : decode cL_isTold 188 = .ok (.ifCond .eq 14, 3) := by decide +kernel
theorem dL_isTold_191 : decode cL_isTold 191 = .ok (.aload_n 0, 1) := by decide +kernel
theorem dL_isTold_192 : decode cL_isTold 192 = .ok (.iload 8, 2) := by decide +kernel
theorem dL_isTold_194 : decode cL_isTold 194 = .ok (.iload 11, 2) := by decide +kernel
theorem dL_isTold_196 : decode cL_isTold 196 = .ok (.invokevirtual 66, 3) := by decide +kernel
theorem dL_isTold_199 : decode cL_isTold 199 = .ok (.goto 4, 3) := by decide +kernel
theorem dL_isTold_202 : decode cL_isTold 202 = .ok (.iconst 0, 1) := by decide +kernel
theorem dL_isTold_203 : decode cL_isTold 203 = .ok (.iadd, 1) := by decide +kernel
theorem dL_isTold_204 : decode cL_isTold 204 = .ok (.iastore, 1) := by decide +kernel
theorem dL_isTold_205 : decode cL_isTold 205 = .ok (.aload 6, 2) := by decide +kernel
theorem dL_isTold_207 : decode cL_isTold 207 = .ok (.iconst 3, 1) := by decide +kernel
theorem dL_isTold_208 : decode cL_isTold 208 = .ok (.iload 11, 2) := by decide +kernel
theorem dL_isTold_210 : decode cL_isTold 210 = .ok (.iadd, 1) := by decide +kernel
theorem dL_isTold_211 : decode cL_isTold 211 = .ok (.dup2, 1) := by decide +kernel
theorem dL_isTold_212 : decode cL_isTold 212 = .ok (.iaload, 1) := by decide +kernel
theorem dL_isTold_213 : decode cL_isTold 213 = .ok (.aload_n 2, 1) := by decide +kernel
theorem dL_isTold_214 : decode cL_isTold 214 = .ok (.iconst 0, 1) := by decide +kernel
theorem dL_isTold_215 : decode cL_isTold 215 = .ok (.iaload, 1) := by decide +kernel
theorem dL_isTold_216 : decode cL_isTold 216 = .ok (.ifCond .eq 8, 3) := by decide +kernel
theorem dL_isTold_219 : decode cL_isTold 219 = .ok (.iload 12, 2) := by decide +kernel
theorem dL_isTold_221 : decode cL_isTold 221 = .ok (.ifCond .ge 7, 3) := by decide +kernel
theorem dL_isTold_224 : decode cL_isTold 224 = .ok (.iconst 0, 1) := by decide +kernel
theorem dL_isTold_225 : decode cL_isTold 225 = .ok (.goto 5, 3) := by decide +kernel
theorem dL_isTold_228 : decode cL_isTold 228 = .ok (.iload 12, 2) := by decide +kernel
theorem dL_isTold_230 : decode cL_isTold 230 = .ok (.iadd, 1) := by decide +kernel
theorem dL_isTold_231 : decode cL_isTold 231 = .ok (.iastore, 1) := by decide +kernel
theorem dL_isTold_232 : decode cL_isTold 232 = .ok (.iload 7, 2) := by decide +kernel
theorem dL_isTold_234 : decode cL_isTold 234 = .ok (.ifCond .eq 28, 3) := by decide +kernel
theorem dL_isTold_237 : decode cL_isTold 237 = .ok (.aload_n 0, 1) := by decide +kernel
theorem dL_isTold_238 : decode cL_isTold 238 = .ok (.iload 8, 2) := by decide +kernel
theorem dL_isTold_240 : decode cL_isTold 240 = .ok (.iload 11, 2) := by decide +kernel
theorem dL_isTold_242 : decode cL_isTold 242 = .ok (.invokevirtual 66, 3) := by decide +kernel
theorem dL_isTold_245 : decode cL_isTold 245 = .ok (.ifCond .lt 7, 3) := by decide +kernel
theorem dL_isTold_248 : decode cL_isTold 248 = .ok (.iconst 1, 1) := by decide +kernel
theorem dL_isTold_249 : decode cL_isTold 249 = .ok (.goto 4, 3) := by decide +kernel
theorem dL_isTold_252 : decode cL_isTold 252 = .ok (.iconst 0, 1) := by decide +kernel
theorem dL_isTold_253 : decode cL_isTold 253 = .ok (.iload 10, 2) := by decide +kernel
theorem dL_isTold_255 : decode cL_isTold 255 = .ok (.if_icmp .ne 7, 3) := by decide +kernel
theorem dL_isTold_258 : decode cL_isTold 258 = .ok (.iconst 1, 1) := by decide +kernel
theorem dL_isTold_259 : decode cL_isTold 259 = .ok (.goto 4, 3) := by decide +kernel
theorem dL_isTold_262 : decode cL_isTold 262 = .ok (.iconst 0, 1) := by decide +kernel
theorem dL_isTold_263 : decode cL_isTold 263 = .ok (.istore 7, 2) := by decide +kernel
theorem dL_isTold_265 : decode cL_isTold 265 = .ok (.iinc 11 1, 3) := by decide +kernel
theorem dL_isTold_268 : decode cL_isTold 268 = .ok (.goto (-106), 3) := by decide +kernel
theorem dL_isTold_271 : decode cL_isTold 271 = .ok (.iload 7, 2) := by decide +kernel
theorem dL_isTold_273 : decode cL_isTold 273 = .ok (.ifCond .eq 107, 3) := by decide +kernel
theorem dL_isTold_276 : decode cL_isTold 276 = .ok (.aload_n 0, 1) := by decide +kernel
theorem dL_isTold_277 : decode cL_isTold 277 = .ok (.iload 8, 2) := by decide +kernel
theorem dL_isTold_279 : decode cL_isTold 279 = .ok (.invokevirtual 90, 3) := by decide +kernel
theorem dL_isTold_282 : decode cL_isTold 282 = .ok (.iload 9, 2) := by decide +kernel
theorem dL_isTold_284 : decode cL_isTold 284 = .ok (.ifCond .eq 10, 3) := by decide +kernel
theorem dL_isTold_287 : decode cL_isTold 287 = .ok (.aload_n 1, 1) := by decide +kernel
theorem dL_isTold_288 : decode cL_isTold 288 = .ok (.iload 8, 2) := by decide +kernel
theorem dL_isTold_290 : decode cL_isTold 290 = .ok (.iaload, 1) := by decide +kernel
theorem dL_isTold_291 : decode cL_isTold 291 = .ok (.goto 4, 3) := by decide +kernel
theorem dL_isTold_294 : decode cL_isTold 294 = .ok (.iconst (-1), 1) := by decide +kernel
theorem dL_isTold_295 : decode cL_isTold 295 = .ok (.if_icmp .ne 85, 3) := by decide +kernel
theorem dL_isTold_298 : decode cL_isTold 298 = .ok (.aload_n 2, 1) := by decide +kernel
theorem dL_isTold_299 : decode cL_isTold 299 = .ok (.iconst 0, 1) := by decide +kernel
theorem dL_isTold_300 : decode cL_isTold 300 = .ok (.iaload, 1) := by decide +kernel
theorem dL_isTold_301 : decode cL_isTold 301 = .ok (.ifCond .gt 17, 3) := by decide +kernel
theorem dL_isTold_304 : decode cL_isTold 304 = .ok (.iload 10, 2) := by decide +kernel
theorem dL_isTold_306 : decode cL_isTold 306 = .ok (.ifCond .ne 74, 3) := by decide +kernel
theorem dL_isTold_309 : decode cL_isTold 309 = .ok (.aload_n 0, 1) := by decide +kernel
theorem dL_isTold_310 : decode cL_isTold 310 = .ok (.iload 8, 2) := by decide +kernel
theorem dL_isTold_312 : decode cL_isTold 312 = .ok (.invokevirtual 93, 3) := by decide +kernel
theorem dL_isTold_315 : decode cL_isTold 315 = .ok (.ifCond .ne 65, 3) := by decide +kernel
theorem dL_isTold_318 : decode cL_isTold 318 = .ok (.iload 10, 2) := by decide +kernel
theorem dL_isTold_320 : decode cL_isTold 320 = .ok (.ifCond .eq 12, 3) := by decide +kernel
theorem dL_isTold_323 : decode cL_isTold 323 = .ok (.aload_n 0, 1) := by decide +kernel
theorem dL_isTold_324 : decode cL_isTold 324 = .ok (.iload 8, 2) := by decide +kernel
theorem dL_isTold_326 : decode cL_isTold 326 = .ok (.invokevirtual 93, 3) := by decide +kernel
theorem dL_isTold_329 : decode cL_isTold 329 = .ok (.ifCond .ne 51, 3) := by decide +kernel
theorem dL_isTold_332 : decode cL_isTold 332 = .ok (.aload_n 2, 1) := by decide +kernel
theorem dL_isTold_333 : decode cL_isTold 333 = .ok (.iconst 0, 1) := by decide +kernel
theorem dL_isTold_334 : decode cL_isTold 334 = .ok (.iaload, 1) := by decide +kernel
theorem dL_isTold_335 : decode cL_isTold 335 = .ok (.iconst 2, 1) := by decide +kernel
theorem dL_isTold_336 : decode cL_isTold 336 = .ok (.if_icmp .ne 40, 3) := by decide +kernel
theorem dL_isTold_339 : decode cL_isTold 339 = .ok (.aload_n 0, 1) := by decide +kernel
theorem dL_isTold_340 : decode cL_isTold 340 = .ok (.aload_n 1, 1) := by decide +kernel
theorem dL_isTold_341 : decode cL_isTold 341 = .ok (.aload_n 2, 1) := by decide +kernel
theorem dL_isTold_342 : decode cL_isTold 342 = .ok (.iload 8, 2) := by decide +kernel
theorem dL_isTold_344 : decode cL_isTold 344 = .ok (.invokestatic 87, 3) := by decide +kernel
theorem dL_isTold_347 : decode cL_isTold 347 = .ok (.ifCond .eq 33, 3) := by decide +kernel
theorem dL_isTold_350 : decode cL_isTold 350 = .ok (.aload_n 0, 1) := by decide +kernel
theorem dL_isTold_351 : decode cL_isTold 351 = .ok (.iload 8, 2) := by decide +kernel
theorem dL_isTold_353 : decode cL_isTold 353 = .ok (.invokevirtual 93, 3) := by decide +kernel
theorem dL_isTold_356 : decode cL_isTold 356 = .ok (.aload_n 1, 1) := by decide +kernel
theorem dL_isTold_357 : decode cL_isTold 357 = .ok (.iload 8, 2) := by decide +kernel
theorem dL_isTold_359 : decode cL_isTold 359 = .ok (.iaload, 1) := by decide +kernel
theorem dL_isTold_360 : decode cL_isTold 360 = .ok (.ifCond .lt 12, 3) := by decide +kernel
theorem dL_isTold_363 : decode cL_isTold 363 = .ok (.iload 10, 2) := by decide +kernel
theorem dL_isTold_365 : decode cL_isTold 365 = .ok (.ifCond .ne 7, 3) := by decide +kernel
theorem dL_isTold_368 : decode cL_isTold 368 = .ok (.iconst 1, 1) := by decide +kernel
theorem dL_isTold_369 : decode cL_isTold 369 = .ok (.goto 4, 3) := by decide +kernel
theorem dL_isTold_372 : decode cL_isTold 372 = .ok (.iconst 0, 1) := by decide +kernel
theorem dL_isTold_373 : decode cL_isTold 373 = .ok (.if_icmp .ne 7, 3) := by decide +kernel
theorem dL_isTold_376 : decode cL_isTold 376 = .ok (.iconst 1, 1) := by decide +kernel
theorem dL_isTold_377 : decode cL_isTold 377 = .ok (.goto 4, 3) := by decide +kernel
theorem dL_isTold_380 : decode cL_isTold 380 = .ok (.iconst 0, 1) := by decide +kernel
theorem dL_isTold_381 : decode cL_isTold 381 = .ok (.istore 7, 2) := by decide +kernel
theorem dL_isTold_383 : decode cL_isTold 383 = .ok (.iinc 8 1, 3) := by decide +kernel
theorem dL_isTold_386 : decode cL_isTold 386 = .ok (.goto (-321), 3) := by decide +kernel
theorem dL_isTold_389 : decode cL_isTold 389 = .ok (.iconst 0, 1) := by decide +kernel
theorem dL_isTold_390 : decode cL_isTold 390 = .ok (.istore 8, 2) := by decide +kernel
theorem dL_isTold_392 : decode cL_isTold 392 = .ok (.iload 8, 2) := by decide +kernel
theorem dL_isTold_394 : decode cL_isTold 394 = .ok (.iconst 3, 1) := by decide +kernel
theorem dL_isTold_395 : decode cL_isTold 395 = .ok (.if_icmp .ge 51, 3) := by decide +kernel
theorem dL_isTold_398 : decode cL_isTold 398 = .ok (.iload 7, 2) := by decide +kernel
theorem dL_isTold_400 : decode cL_isTold 400 = .ok (.ifCond .eq 46, 3) := by decide +kernel
theorem dL_isTold_403 : decode cL_isTold 403 = .ok (.aload_n 0, 1) := by decide +kernel
theorem dL_isTold_404 : decode cL_isTold 404 = .ok (.iload 8, 2) := by decide +kernel
theorem dL_isTold_406 : decode cL_isTold 406 = .ok (.invokevirtual 97, 3) := by decide +kernel
theorem dL_isTold_409 : decode cL_isTold 409 = .ok (.aload 6, 2) := by decide +kernel
theorem dL_isTold_411 : decode cL_isTold 411 = .ok (.iload 8, 2) := by decide +kernel
theorem dL_isTold_413 : decode cL_isTold 413 = .ok (.iaload, 1) := by decide +kernel
theorem dL_isTold_414 : decode cL_isTold 414 = .ok (.if_icmp .ne 23, 3) := by decide +kernel
theorem dL_isTold_417 : decode cL_isTold 417 = .ok (.aload_n 0, 1) := by decide +kernel
theorem dL_isTold_418 : decode cL_isTold 418 = .ok (.iload 8, 2) := by decide +kernel
theorem dL_isTold_420 : decode cL_isTold 420 = .ok (.invokevirtual 100, 3) := by decide +kernel
theorem dL_isTold_423 : decode cL_isTold 423 = .ok (.aload 6, 2) := by decide +kernel
theorem dL_isTold_425 : decode cL_isTold 425 = .ok (.iconst 3, 1) := by decide +kernel
theorem dL_isTold_426 : decode cL_isTold 426 = .ok (.iload 8, 2) := by decide +kernel
theorem dL_isTold_428 : decode cL_isTold 428 = .ok (.iadd, 1) := by decide +kernel
theorem dL_isTold_429 : decode cL_isTold 429 = .ok (.iaload, 1) := by decide +kernel
theorem dL_isTold_430 : decode cL_isTold 430 = .ok (.if_icmp .ne 7, 3) := by decide +kernel
theorem dL_isTold_433 : decode cL_isTold 433 = .ok (.iconst 1, 1) := by decide +kernel
theorem dL_isTold_434 : decode cL_isTold 434 = .ok (.goto 4, 3) := by decide +kernel
theorem dL_isTold_437 : decode cL_isTold 437 = .ok (.iconst 0, 1) := by decide +kernel
theorem dL_isTold_438 : decode cL_isTold 438 = .ok (.istore 7, 2) := by decide +kernel
theorem dL_isTold_440 : decode cL_isTold 440 = .ok (.iinc 8 1, 3) := by decide +kernel
theorem dL_isTold_443 : decode cL_isTold 443 = .ok (.goto (-51), 3) := by decide +kernel
theorem dL_isTold_446 : decode cL_isTold 446 = .ok (.iload 7, 2) := by decide +kernel
theorem dL_isTold_448 : decode cL_isTold 448 = .ok (.ifCond .eq 33, 3) := by decide +kernel
theorem dL_isTold_451 : decode cL_isTold 451 = .ok (.aload_n 0, 1) := by decide +kernel
theorem dL_isTold_452 : decode cL_isTold 452 = .ok (.invokevirtual 103, 3) := by decide +kernel
theorem dL_isTold_455 : decode cL_isTold 455 = .ok (.iload_n 3, 1) := by decide +kernel
theorem dL_isTold_456 : decode cL_isTold 456 = .ok (.if_icmp .ne 25, 3) := by decide +kernel
theorem dL_isTold_459 : decode cL_isTold 459 = .ok (.aload_n 0, 1) := by decide +kernel
theorem dL_isTold_460 : decode cL_isTold 460 = .ok (.invokevirtual 106, 3) := by decide +kernel
theorem dL_isTold_463 : decode cL_isTold 463 = .ok (.iload 4, 2) := by decide +kernel
theorem dL_isTold_465 : decode cL_isTold 465 = .ok (.if_icmp .ne 16, 3) := by decide +kernel
theorem dL_isTold_468 : decode cL_isTold 468 = .ok (.aload_n 0, 1) := by decide +kernel
theorem dL_isTold_469 : decode cL_isTold 469 = .ok (.invokevirtual 109, 3) := by decide +kernel
theorem dL_isTold_472 : decode cL_isTold 472 = .ok (.iload 5, 2) := by decide +kernel
theorem dL_isTold_474 : decode cL_isTold 474 = .ok (.if_icmp .ne 7, 3) := by decide +kernel
theorem dL_isTold_477 : decode cL_isTold 477 = .ok (.iconst 1, 1) := by decide +kernel
theorem dL_isTold_478 : decode cL_isTold 478 = .ok (.goto 4, 3) := by decide +kernel
theorem dL_isTold_481 : decode cL_isTold 481 = .ok (.iconst 0, 1) := by decide +kernel
theorem dL_isTold_482 : decode cL_isTold 482 = .ok (.ireturn, 1) := by decide +kernel
