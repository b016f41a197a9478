theorem dL_changes_167 : decode cL_changes 167 = .ok (.iload 10, 2) := by decide +kernel
theorem dL_changes_169 : decode cL_changes 169 = .ok (.ifCond .eq 8, 3) := by decide +kernel
theorem dL_changes_172 : decode cL_changes 172 = .ok (.iload 11, 2) := by decide +kernel
theorem dL_changes_174 : decode cL_changes 174 = .ok (.goto 5, 3) := by decide +kernel
theorem dL_changes_177 : decode cL_changes 177 = .ok (.bipush (-8), 2) := by decide +kernel
theorem dL_changes_179 : decode cL_changes 179 = .ok (.if_icmp .ne 19, 3) := by decide +kernel
theorem dL_changes_182 : decode cL_changes 182 = .ok (.iload 10, 2) := by decide +kernel
theorem dL_changes_184 : decode cL_changes 184 = .ok (.ifCond .eq 10, 3) := by decide +kernel
theorem dL_changes_187 : decode cL_changes 187 = .ok (.aload_n 0, 1) := by decide +kernel
theorem dL_changes_188 : decode cL_changes 188 = .ok (.invokevirtual 109, 3) := by decide +kernel
theorem dL_changes_191 : decode cL_changes 191 = .ok (.ifCond .ne 7, 3) := by decide +kernel
theorem dL_changes_194 : decode cL_changes 194 = .ok (.iconst 1, 1) := by decide +kernel
theorem dL_changes_195 : decode cL_changes 195 = .ok (.goto 4, 3) := by decide +kernel
theorem dL_changes_198 : decode cL_changes 198 = .ok (.iconst 0, 1) := by decide +kernel
theorem dL_changes_199 : decode cL_changes 199 = .ok (.ireturn, 1) := by decide +kernel
theorem dL_changes_200 : decode cL_changes 200 = .ok (.iload_n 1, 1) := by decide +kernel
theorem dL_changes_201 : decode cL_changes 201 = .ok (.bipush 6, 2) := by decide +kernel
theorem dL_changes_203 : decode cL_changes 203 = .ok (.if_icmp .ne 122, 3) := by decide +kernel
theorem dL_changes_206 : decode cL_changes 206 = .ok (.aload_n 0, 1) := by decide +kernel
theorem dL_changes_207 : decode cL_changes 207 = .ok (.bipush 6, 2) := by decide +kernel
theorem dL_changes_209 : decode cL_changes 209 = .ok (.iconst 0, 1) := by decide +kernel
theorem dL_changes_210 : decode cL_changes 210 = .ok (.iconst 0, 1) := by decide +kernel
theorem dL_changes_211 : decode cL_changes 211 = .ok (.iconst 0, 1) := by decide +kernel
theorem dL_changes_212 : decode cL_changes 212 = .ok (.invokestatic 112, 3) := by decide +kernel
theorem dL_changes_215 : decode cL_changes 215 = .ok (.istore 8, 2) := by decide +kernel
theorem dL_changes_217 : decode cL_changes 217 = .ok (.aload 5, 2) := by decide +kernel
theorem dL_changes_219 : decode cL_changes 219 = .ok (.iconst 0, 1) := by decide +kernel
theorem dL_changes_220 : decode cL_changes 220 = .ok (.iaload, 1) := by decide +kernel
theorem dL_changes_221 : decode cL_changes 221 = .ok (.iconst 2, 1) := by decide +kernel
theorem dL_changes_222 : decode cL_changes 222 = .ok (.if_icmp .ne 7, 3) := by decide +kernel
theorem dL_changes_225 : decode cL_changes 225 = .ok (.iconst 1, 1) := by decide +kernel
theorem dL_changes_226 : decode cL_changes 226 = .ok (.goto 4, 3) := by decide +kernel
theorem dL_changes_229 : decode cL_changes 229 = .ok (.iconst 0, 1) := by decide +kernel
theorem dL_changes_230 : decode cL_changes 230 = .ok (.istore 9, 2) := by decide +kernel
theorem dL_changes_232 : decode cL_changes 232 = .ok (.iconst 0, 1) := by decide +kernel
theorem dL_changes_233 : decode cL_changes 233 = .ok (.istore 10, 2) := by decide +kernel
theorem dL_changes_235 : decode cL_changes 235 = .ok (.iload 10, 2) := by decide +kernel
theorem dL_changes_237 : decode cL_changes 237 = .ok (.bipush 40, 2) := by decide +kernel
theorem dL_changes_239 : decode cL_changes 239 = .ok (.if_icmp .ge 25, 3) := by decide +kernel
theorem dL_changes_242 : decode cL_changes 242 = .ok (.iload 9, 2) := by decide +kernel
theorem dL_changes_244 : decode cL_changes 244 = .ok (.ifCond .eq 20, 3) := by decide +kernel
theorem dL_changes_247 : decode cL_changes 247 = .ok (.aload 4, 2) := by decide +kernel
theorem dL_changes_249 : decode cL_changes 249 = .ok (.iload 10, 2) := by decide +kernel
theorem dL_changes_251 : decode cL_changes 251 = .ok (.aload_n 0, 1) := by decide +kernel
theorem dL_changes_252 : decode cL_changes 252 = .ok (.iload 10, 2) := by decide +kernel
theorem dL_changes_254 : decode cL_changes 254 = .ok (.invokevirtual 90, 3) := by decide +kernel
theorem dL_changes_257 : decode cL_changes 257 = .ok (.iastore, 1) := by decide +kernel
theorem dL_changes_258 : decode cL_changes 258 = .ok (.iinc 10 1, 3) := by decide +kernel
theorem dL_changes_261 : decode cL_changes 261 = .ok (.goto (-26), 3) := by decide +kernel
theorem dL_changes_264 : decode cL_changes 264 = .ok (.aload 5, 2) := by decide +kernel
theorem dL_changes_266 : decode cL_changes 266 = .ok (.iconst 0, 1) := by decide +kernel
theorem dL_changes_267 : decode cL_changes 267 = .ok (.iload 9, 2) := by decide +kernel
theorem dL_changes_269 : decode cL_changes 269 = .ok (.ifCond .eq 7, 3) := by decide +kernel
theorem dL_changes_272 : decode cL_changes 272 = .ok (.iconst 0, 1) := by decide +kernel
theorem dL_changes_273 : decode cL_changes 273 = .ok (.goto 7, 3) := by decide +kernel
theorem dL_changes_276 : decode cL_changes 276 = .ok (.aload 5, 2) := by decide +kernel
theorem dL_changes_278 : decode cL_changes 278 = .ok (.iconst 0, 1) := by decide +kernel
theorem dL_changes_279 : decode cL_changes 279 = .ok (.iaload, 1) := by decide +kernel
theorem dL_changes_280 : decode cL_changes 280 = .ok (.iastore, 1) := by decide +kernel
theorem dL_changes_281 : decode cL_changes 281 = .ok (.iload 8, 2) := by decide +kernel
theorem dL_changes_283 : decode cL_changes 283 = .ok (.iload 9, 2) := by decide +kernel
theorem dL_changes_285 : decode cL_changes 285 = .ok (.ifCond .eq 8, 3) := by decide +kernel
theorem dL_changes_288 : decode cL_changes 288 = .ok (.iload 7, 2) := by decide +kernel
theorem dL_changes_290 : decode cL_changes 290 = .ok (.goto 5, 3) := by decide +kernel
theorem dL_changes_293 : decode cL_changes 293 = .ok (.bipush (-8), 2) := by decide +kernel
theorem dL_changes_295 : decode cL_changes 295 = .ok (.if_icmp .ne 28, 3) := by decide +kernel
theorem dL_changes_298 : decode cL_changes 298 = .ok (.iload 9, 2) := by decide +kernel
theorem dL_changes_300 : decode cL_changes 300 = .ok (.ifCond .eq 19, 3) := by decide +kernel
theorem dL_changes_303 : decode cL_changes 303 = .ok (.aload_n 0, 1) := by decide +kernel
theorem dL_changes_304 : decode cL_changes 304 = .ok (.invokevirtual 103, 3) := by decide +kernel
theorem dL_changes_307 : decode cL_changes 307 = .ok (.iload 6, 2) := by decide +kernel
theorem dL_changes_309 : decode cL_changes 309 = .ok (.if_icmp .ne 14, 3) := by decide +kernel
theorem dL_changes_312 : decode cL_changes 312 = .ok (.aload_n 0, 1) := by decide +kernel
theorem dL_changes_313 : decode cL_changes 313 = .ok (.invokevirtual 106, 3) := by decide +kernel
theorem dL_changes_316 : decode cL_changes 316 = .ok (.ifCond .ne 7, 3) := by decide +kernel
theorem dL_changes_319 : decode cL_changes 319 = .ok (.iconst 1, 1) := by decide +kernel
theorem dL_changes_320 : decode cL_changes 320 = .ok (.goto 4, 3) := by decide +kernel
theorem dL_changes_323 : decode cL_changes 323 = .ok (.iconst 0, 1) := by decide +kernel
theorem dL_changes_324 : decode cL_changes 324 = .ok (.ireturn, 1) := by decide +kernel
theorem dL_changes_325 : decode cL_changes 325 = .ok (.iload_n 1, 1) := by decide +kernel
theorem dL_changes_326 : decode cL_changes 326 = .ok (.bipush 7, 2) := by decide +kernel
theorem dL_changes_328 : decode cL_changes 328 = .ok (.if_icmp .ne 88, 3) := by decide +kernel
theorem dL_changes_331 : decode cL_changes 331 = .ok (.aload_n 0, 1) := by decide +kernel
theorem dL_changes_332 : decode cL_changes 332 = .ok (.bipush 7, 2) := by decide +kernel
theorem dL_changes_334 : decode cL_changes 334 = .ok (.iconst 0, 1) := by decide +kernel
theorem dL_changes_335 : decode cL_changes 335 = .ok (.iconst 0, 1) := by decide +kernel
theorem dL_changes_336 : decode cL_changes 336 = .ok (.iconst 0, 1) := by decide +kernel
theorem dL_changes_337 : decode cL_changes 337 = .ok (.invokestatic 112, 3) := by decide +kernel
theorem dL_changes_340 : decode cL_changes 340 = .ok (.istore 8, 2) := by decide +kernel
theorem dL_changes_342 : decode cL_changes 342 = .ok (.aload 5, 2) := by decide +kernel
theorem dL_changes_344 : decode cL_changes 344 = .ok (.iconst 0, 1) := by decide +kernel
theorem dL_changes_345 : decode cL_changes 345 = .ok (.iaload, 1) := by decide +kernel
theorem dL_changes_346 : decode cL_changes 346 = .ok (.iconst 1, 1) := by decide +kernel
theorem dL_changes_347 : decode cL_changes 347 = .ok (.if_icmp .ne 7, 3) := by decide +kernel
theorem dL_changes_350 : decode cL_changes 350 = .ok (.iconst 1, 1) := by decide +kernel
theorem dL_changes_351 : decode cL_changes 351 = .ok (.goto 4, 3) := by decide +kernel
theorem dL_changes_354 : decode cL_changes 354 = .ok (.iconst 0, 1) := by decide +kernel
theorem dL_changes_355 : decode cL_changes 355 = .ok (.istore 9, 2) := by decide +kernel
theorem dL_changes_357 : decode cL_changes 357 = .ok (.aload 5, 2) := by decide +kernel
theorem dL_changes_359 : decode cL_changes 359 = .ok (.iconst 0, 1) := by decide +kernel
theorem dL_changes_360 : decode cL_changes 360 = .ok (.iload 9, 2) := by decide +kernel
theorem dL_changes_362 : decode cL_changes 362 = .ok (.ifCond .eq 7, 3) := by decide +kernel
theorem dL_changes_365 : decode cL_changes 365 = .ok (.iconst 0, 1) := by decide +kernel
theorem dL_changes_366 : decode cL_changes 366 = .ok (.goto 7, 3) := by decide +kernel
theorem dL_changes_369 : decode cL_changes 369 = .ok (.aload 5, 2) := by decide +kernel
theorem dL_changes_371 : decode cL_changes 371 = .ok (.iconst 0, 1) := by decide +kernel
theorem dL_changes_372 : decode cL_changes 372 = .ok (.iaload, 1) := by decide +kernel
theorem dL_changes_373 : decode cL_changes 373 = .ok (.iastore, 1) := by decide +kernel
theorem dL_changes_374 : decode cL_changes 374 = .ok (.aload 5, 2) := by decide +kernel
theorem dL_changes_376 : decode cL_changes 376 = .ok (.bipush 6, 2) := by decide +kernel
theorem dL_changes_378 : decode cL_changes 378 = .ok (.iload 9, 2) := by decide +kernel
theorem dL_changes_380 : decode cL_changes 380 = .ok (.ifCond .eq 7, 3) := by decide +kernel
theorem dL_changes_383 : decode cL_changes 383 = .ok (.iconst 0, 1) := by decide +kernel
theorem dL_changes_384 : decode cL_changes 384 = .ok (.goto 8, 3) := by decide +kernel
theorem dL_changes_387 : decode cL_changes 387 = .ok (.aload 5, 2) := by decide +kernel
theorem dL_changes_389 : decode cL_changes 389 = .ok (.bipush 6, 2) := by decide +kernel
theorem dL_changes_391 : decode cL_changes 391 = .ok (.iaload, 1) := by decide +kernel
theorem dL_changes_392 : decode cL_changes 392 = .ok (.iastore, 1) := by decide +kernel
theorem dL_changes_393 : decode cL_changes 393 = .ok (.iload 8, 2) := by decide +kernel
theorem dL_changes_395 : decode cL_changes 395 = .ok (.iload 9, 2) := by decide +kernel
theorem dL_changes_397 : decode cL_changes 397 = .ok (.ifCond .eq 8, 3) := by decide +kernel
theorem dL_changes_400 : decode cL_changes 400 = .ok (.iload 6, 2) := by decide +kernel
theorem dL_changes_402 : decode cL_changes 402 = .ok (.goto 5, 3) := by decide +kernel
theorem dL_changes_405 : decode cL_changes 405 = .ok (.bipush (-8), 2) := by decide +kernel
theorem dL_changes_407 : decode cL_changes 407 = .ok (.if_icmp .ne 7, 3) := by decide +kernel
theorem dL_changes_410 : decode cL_changes 410 = .ok (.iconst 1, 1) := by decide +kernel
theorem dL_changes_411 : decode cL_changes 411 = .ok (.goto 4, 3) := by decide +kernel
theorem dL_changes_414 : decode cL_changes 414 = .ok (.iconst 0, 1) := by decide +kernel
theorem dL_changes_415 : decode cL_changes 415 = .ok (.ireturn, 1) := by decide +kernel
theorem dL_changes_416 : decode cL_changes 416 = .ok (.iload_n 1, 1) := by decide +kernel
theorem dL_changes_417 : decode cL_changes 417 = .ok (.bipush 8, 2) := by decide +kernel
theorem dL_changes_419 : decode cL_changes 419 = .ok (.if_icmp .ne 73, 3) := by decide +kernel
theorem dL_changes_422 : decode cL_changes 422 = .ok (.aload 5, 2) := by decide +kernel
theorem dL_changes_424 : decode cL_changes 424 = .ok (.iconst 0, 1) := by decide +kernel
theorem dL_changes_425 : decode cL_changes 425 = .ok (.iaload, 1) := by decide +kernel
theorem dL_changes_426 : decode cL_changes 426 = .ok (.iconst 2, 1) := by decide +kernel
theorem dL_changes_427 : decode cL_changes 427 = .ok (.if_icmp .ne 7, 3) := by decide +kernel
theorem dL_changes_430 : decode cL_changes 430 = .ok (.iconst 1, 1) := by decide +kernel
theorem dL_changes_431 : decode cL_changes 431 = .ok (.goto 4, 3) := by decide +kernel
theorem dL_changes_434 : decode cL_changes 434 = .ok (.iconst 0, 1) := by decide +kernel
theorem dL_changes_435 : decode cL_changes 435 = .ok (.istore 8, 2) := by decide +kernel
theorem dL_changes_437 : decode cL_changes 437 = .ok (.aload 5, 2) := by decide +kernel
theorem dL_changes_439 : decode cL_changes 439 = .ok (.iconst 0, 1) := by decide +kernel
theorem dL_changes_440 : decode cL_changes 440 = .ok (.iload 8, 2) := by decide +kernel
theorem dL_changes_442 : decode cL_changes 442 = .ok (.ifCond .eq 7, 3) := by decide +kernel
theorem dL_changes_445 : decode cL_changes 445 = .ok (.iconst 1, 1) := by decide +kernel
theorem dL_changes_446 : decode cL_changes 446 = .ok (.goto 7, 3) := by decide +kernel
theorem dL_changes_449 : decode cL_changes 449 = .ok (.aload 5, 2) := by decide +kernel
theorem dL_changes_451 : decode cL_changes 451 = .ok (.iconst 0, 1) := by decide +kernel
theorem dL_changes_452 : decode cL_changes 452 = .ok (.iaload, 1) := by decide +kernel
theorem dL_changes_453 : decode cL_changes 453 = .ok (.iastore, 1) := by decide +kernel
theorem dL_changes_454 : decode cL_changes 454 = .ok (.aload_n 0, 1) := by decide +kernel
theorem dL_changes_455 : decode cL_changes 455 = .ok (.bipush 8, 2) := by decide +kernel
theorem dL_changes_457 : decode cL_changes 457 = .ok (.iconst 0, 1) := by decide +kernel
theorem dL_changes_458 : decode cL_changes 458 = .ok (.iconst 0, 1) := by decide +kernel
theorem dL_changes_459 : decode cL_changes 459 = .ok (.iconst 0, 1) := by decide +kernel
theorem dL_changes_460 : decode cL_changes 460 = .ok (.invokestatic 112, 3) := by decide +kernel
theorem dL_changes_463 : decode cL_changes 463 = .ok (.iload 8, 2) := by decide +kernel
theorem dL_changes_465 : decode cL_changes 465 = .ok (.ifCond .eq 7, 3) := by decide +kernel
theorem dL_changes_468 : decode cL_changes 468 = .ok (.iconst 0, 1) := by decide +kernel
theorem dL_changes_469 : decode cL_changes 469 = .ok (.goto 5, 3) := by decide +kernel
theorem dL_changes_472 : decode cL_changes 472 = .ok (.bipush (-8), 2) := by decide +kernel
theorem dL_changes_474 : decode cL_changes 474 = .ok (.if_icmp .ne 16, 3) := by decide +kernel
theorem dL_changes_477 : decode cL_changes 477 = .ok (.aload_n 0, 1) := by decide +kernel
theorem dL_changes_478 : decode cL_changes 478 = .ok (.invokevirtual 106, 3) := by decide +kernel
theorem dL_changes_481 : decode cL_changes 481 = .ok (.iload 6, 2) := by decide +kernel
theorem dL_changes_483 : decode cL_changes 483 = .ok (.if_icmp .ne 7, 3) := by decide +kernel
theorem dL_changes_486 : decode cL_changes 486 = .ok (.iconst 1, 1) := by decide +kernel
theorem dL_changes_487 : decode cL_changes 487 = .ok (.goto 4, 3) := by decide +kernel
theorem dL_changes_490 : decode cL_changes 490 = .ok (.iconst 0, 1) := by decide +kernel
