theorem d_L_law_273 : decode b_L_law 273 = .ok (.iaload, 1) := by decide +kernel
theorem d_L_law_274 : decode b_L_law 274 = .ok (.aload_n 0, 1) := by decide +kernel
theorem d_L_law_275 : decode b_L_law 275 = .ok (.iload 4, 2) := by decide +kernel
theorem d_L_law_277 : decode b_L_law 277 = .ok (.iconst 2, 1) := by decide +kernel
theorem d_L_law_278 : decode b_L_law 278 = .ok (.iadd, 1) := by decide +kernel
theorem d_L_law_279 : decode b_L_law 279 = .ok (.iaload, 1) := by decide +kernel
theorem d_L_law_280 : decode b_L_law 280 = .ok (.invokevirtual 71, 3) := by decide +kernel
theorem d_L_law_283 : decode b_L_law 283 = .ok (.aload_n 2, 1) := by decide +kernel
theorem d_L_law_284 : decode b_L_law 284 = .ok (.aload_n 0, 1) := by decide +kernel
theorem d_L_law_285 : decode b_L_law 285 = .ok (.iload 4, 2) := by decide +kernel
theorem d_L_law_287 : decode b_L_law 287 = .ok (.iconst 1, 1) := by decide +kernel
theorem d_L_law_288 : decode b_L_law 288 = .ok (.iadd, 1) := by decide +kernel
theorem d_L_law_289 : decode b_L_law 289 = .ok (.iaload, 1) := by decide +kernel
theorem d_L_law_290 : decode b_L_law 290 = .ok (.aload_n 0, 1) := by decide +kernel
theorem d_L_law_291 : decode b_L_law 291 = .ok (.iload 4, 2) := by decide +kernel
theorem d_L_law_293 : decode b_L_law 293 = .ok (.iconst 2, 1) := by decide +kernel
theorem d_L_law_294 : decode b_L_law 294 = .ok (.iadd, 1) := by decide +kernel
theorem d_L_law_295 : decode b_L_law 295 = .ok (.iaload, 1) := by decide +kernel
theorem d_L_law_296 : decode b_L_law 296 = .ok (.invokevirtual 74, 3) := by decide +kernel
theorem d_L_law_299 : decode b_L_law 299 = .ok (.if_icmp .eq 525, 3) := by decide +kernel
theorem d_L_law_302 : decode b_L_law 302 = .ok (.iconst 0, 1) := by decide +kernel
theorem d_L_law_303 : decode b_L_law 303 = .ok (.ireturn, 1) := by decide +kernel
theorem d_L_law_304 : decode b_L_law 304 = .ok (.aload_n 1, 1) := by decide +kernel
theorem d_L_law_305 : decode b_L_law 305 = .ok (.invokevirtual 75, 3) := by decide +kernel
theorem d_L_law_308 : decode b_L_law 308 = .ok (.aload_n 2, 1) := by decide +kernel
theorem d_L_law_309 : decode b_L_law 309 = .ok (.invokevirtual 78, 3) := by decide +kernel
theorem d_L_law_312 : decode b_L_law 312 = .ok (.if_icmp .eq 512, 3) := by decide +kernel
theorem d_L_law_315 : decode b_L_law 315 = .ok (.iconst 0, 1) := by decide +kernel
theorem d_L_law_316 : decode b_L_law 316 = .ok (.ireturn, 1) := by decide +kernel
theorem d_L_law_317 : decode b_L_law 317 = .ok (.aload_n 1, 1) := by decide +kernel
theorem d_L_law_318 : decode b_L_law 318 = .ok (.aload_n 0, 1) := by decide +kernel
theorem d_L_law_319 : decode b_L_law 319 = .ok (.iload 4, 2) := by decide +kernel
theorem d_L_law_321 : decode b_L_law 321 = .ok (.iconst 1, 1) := by decide +kernel
theorem d_L_law_322 : decode b_L_law 322 = .ok (.iadd, 1) := by decide +kernel
theorem d_L_law_323 : decode b_L_law 323 = .ok (.iaload, 1) := by decide +kernel
theorem d_L_law_324 : decode b_L_law 324 = .ok (.aload_n 0, 1) := by decide +kernel
theorem d_L_law_325 : decode b_L_law 325 = .ok (.iload 4, 2) := by decide +kernel
theorem d_L_law_327 : decode b_L_law 327 = .ok (.iconst 2, 1) := by decide +kernel
theorem d_L_law_328 : decode b_L_law 328 = .ok (.iadd, 1) := by decide +kernel
theorem d_L_law_329 : decode b_L_law 329 = .ok (.iaload, 1) := by decide +kernel
theorem d_L_law_330 : decode b_L_law 330 = .ok (.invokevirtual 79, 3) := by decide +kernel
theorem d_L_law_333 : decode b_L_law 333 = .ok (.aload_n 2, 1) := by decide +kernel
theorem d_L_law_334 : decode b_L_law 334 = .ok (.aload_n 0, 1) := by decide +kernel
theorem d_L_law_335 : decode b_L_law 335 = .ok (.iload 4, 2) := by decide +kernel
theorem d_L_law_337 : decode b_L_law 337 = .ok (.iconst 1, 1) := by decide +kernel
theorem d_L_law_338 : decode b_L_law 338 = .ok (.iadd, 1) := by decide +kernel
theorem d_L_law_339 : decode b_L_law 339 = .ok (.iaload, 1) := by decide +kernel
theorem d_L_law_340 : decode b_L_law 340 = .ok (.aload_n 0, 1) := by decide +kernel
theorem d_L_law_341 : decode b_L_law 341 = .ok (.iload 4, 2) := by decide +kernel
theorem d_L_law_343 : decode b_L_law 343 = .ok (.iconst 2, 1) := by decide +kernel
theorem d_L_law_344 : decode b_L_law 344 = .ok (.iadd, 1) := by decide +kernel
theorem d_L_law_345 : decode b_L_law 345 = .ok (.iaload, 1) := by decide +kernel
theorem d_L_law_346 : decode b_L_law 346 = .ok (.invokevirtual 82, 3) := by decide +kernel
theorem d_L_law_349 : decode b_L_law 349 = .ok (.if_icmp .eq 475, 3) := by decide +kernel
theorem d_L_law_352 : decode b_L_law 352 = .ok (.iconst 0, 1) := by decide +kernel
theorem d_L_law_353 : decode b_L_law 353 = .ok (.ireturn, 1) := by decide +kernel
theorem d_L_law_354 : decode b_L_law 354 = .ok (.aload_n 1, 1) := by decide +kernel
theorem d_L_law_355 : decode b_L_law 355 = .ok (.aload_n 0, 1) := by decide +kernel
theorem d_L_law_356 : decode b_L_law 356 = .ok (.iload 4, 2) := by decide +kernel
theorem d_L_law_358 : decode b_L_law 358 = .ok (.iconst 1, 1) := by decide +kernel
theorem d_L_law_359 : decode b_L_law 359 = .ok (.iadd, 1) := by decide +kernel
theorem d_L_law_360 : decode b_L_law 360 = .ok (.iaload, 1) := by decide +kernel
theorem d_L_law_361 : decode b_L_law 361 = .ok (.aload_n 0, 1) := by decide +kernel
theorem d_L_law_362 : decode b_L_law 362 = .ok (.iload 4, 2) := by decide +kernel
theorem d_L_law_364 : decode b_L_law 364 = .ok (.iconst 2, 1) := by decide +kernel
theorem d_L_law_365 : decode b_L_law 365 = .ok (.iadd, 1) := by decide +kernel
theorem d_L_law_366 : decode b_L_law 366 = .ok (.iaload, 1) := by decide +kernel
theorem d_L_law_367 : decode b_L_law 367 = .ok (.invokestatic 83, 3) := by decide +kernel
theorem d_L_law_370 : decode b_L_law 370 = .ok (.istore 5, 2) := by decide +kernel
theorem d_L_law_372 : decode b_L_law 372 = .ok (.aload_n 2, 1) := by decide +kernel
theorem d_L_law_373 : decode b_L_law 373 = .ok (.aload_n 0, 1) := by decide +kernel
theorem d_L_law_374 : decode b_L_law 374 = .ok (.iload 4, 2) := by decide +kernel
theorem d_L_law_376 : decode b_L_law 376 = .ok (.iconst 1, 1) := by decide +kernel
theorem d_L_law_377 : decode b_L_law 377 = .ok (.iadd, 1) := by decide +kernel
theorem d_L_law_378 : decode b_L_law 378 = .ok (.iaload, 1) := by decide +kernel
theorem d_L_law_379 : decode b_L_law 379 = .ok (.aload_n 0, 1) := by decide +kernel
theorem d_L_law_380 : decode b_L_law 380 = .ok (.iload 4, 2) := by decide +kernel
theorem d_L_law_382 : decode b_L_law 382 = .ok (.iconst 2, 1) := by decide +kernel
theorem d_L_law_383 : decode b_L_law 383 = .ok (.iadd, 1) := by decide +kernel
theorem d_L_law_384 : decode b_L_law 384 = .ok (.iaload, 1) := by decide +kernel
theorem d_L_law_385 : decode b_L_law 385 = .ok (.invokevirtual 86, 3) := by decide +kernel
theorem d_L_law_388 : decode b_L_law 388 = .ok (.aload_n 2, 1) := by decide +kernel
theorem d_L_law_389 : decode b_L_law 389 = .ok (.invokevirtual 55, 3) := by decide +kernel
theorem d_L_law_392 : decode b_L_law 392 = .ok (.iload 5, 2) := by decide +kernel
theorem d_L_law_394 : decode b_L_law 394 = .ok (.if_icmp .eq 5, 3) := by decide +kernel
theorem d_L_law_397 : decode b_L_law 397 = .ok (.iconst 0, 1) := by decide +kernel
theorem d_L_law_398 : decode b_L_law 398 = .ok (.ireturn, 1) := by decide +kernel
theorem d_L_law_399 : decode b_L_law 399 = .ok (.goto 425, 3) := by decide +kernel
theorem d_L_law_402 : decode b_L_law 402 = .ok (.aload_n 1, 1) := by decide +kernel
theorem d_L_law_403 : decode b_L_law 403 = .ok (.invokestatic 87, 3) := by decide +kernel
theorem d_L_law_406 : decode b_L_law 406 = .ok (.istore 5, 2) := by decide +kernel
theorem d_L_law_408 : decode b_L_law 408 = .ok (.aload_n 2, 1) := by decide +kernel
theorem d_L_law_409 : decode b_L_law 409 = .ok (.invokevirtual 90, 3) := by decide +kernel
theorem d_L_law_412 : decode b_L_law 412 = .ok (.aload_n 2, 1) := by decide +kernel
theorem d_L_law_413 : decode b_L_law 413 = .ok (.invokevirtual 55, 3) := by decide +kernel
theorem d_L_law_416 : decode b_L_law 416 = .ok (.iload 5, 2) := by decide +kernel
theorem d_L_law_418 : decode b_L_law 418 = .ok (.if_icmp .eq 5, 3) := by decide +kernel
theorem d_L_law_421 : decode b_L_law 421 = .ok (.iconst 0, 1) := by decide +kernel
theorem d_L_law_422 : decode b_L_law 422 = .ok (.ireturn, 1) := by decide +kernel
theorem d_L_law_423 : decode b_L_law 423 = .ok (.goto 401, 3) := by decide +kernel
theorem d_L_law_426 : decode b_L_law 426 = .ok (.aload_n 1, 1) := by decide +kernel
theorem d_L_law_427 : decode b_L_law 427 = .ok (.aload_n 0, 1) := by decide +kernel
theorem d_L_law_428 : decode b_L_law 428 = .ok (.iload 4, 2) := by decide +kernel
theorem d_L_law_430 : decode b_L_law 430 = .ok (.iconst 1, 1) := by decide +kernel
theorem d_L_law_431 : decode b_L_law 431 = .ok (.iadd, 1) := by decide +kernel
theorem d_L_law_432 : decode b_L_law 432 = .ok (.iaload, 1) := by decide +kernel
theorem d_L_law_433 : decode b_L_law 433 = .ok (.ifCond .eq 7, 3) := by decide +kernel
theorem d_L_law_436 : decode b_L_law 436 = .ok (.iconst 1, 1) := by decide +kernel
theorem d_L_law_437 : decode b_L_law 437 = .ok (.goto 4, 3) := by decide +kernel
theorem d_L_law_440 : decode b_L_law 440 = .ok (.iconst 0, 1) := by decide +kernel
theorem d_L_law_441 : decode b_L_law 441 = .ok (.invokevirtual 91, 3) := by decide +kernel
theorem d_L_law_444 : decode b_L_law 444 = .ok (.aload_n 2, 1) := by decide +kernel
theorem d_L_law_445 : decode b_L_law 445 = .ok (.aload_n 0, 1) := by decide +kernel
theorem d_L_law_446 : decode b_L_law 446 = .ok (.iload 4, 2) := by decide +kernel
theorem d_L_law_448 : decode b_L_law 448 = .ok (.iconst 1, 1) := by decide +kernel
theorem d_L_law_449 : decode b_L_law 449 = .ok (.iadd, 1) := by decide +kernel
theorem d_L_law_450 : decode b_L_law 450 = .ok (.iaload, 1) := by decide +kernel
theorem d_L_law_451 : decode b_L_law 451 = .ok (.ifCond .eq 7, 3) := by decide +kernel
theorem d_L_law_454 : decode b_L_law 454 = .ok (.iconst 1, 1) := by decide +kernel
theorem d_L_law_455 : decode b_L_law 455 = .ok (.goto 4, 3) := by decide +kernel
