theorem d_L_law_292 : decode code 292 = .ok (.aload_n 0, 1) := by decide +kernel
theorem d_L_law_293 : decode code 293 = .ok (.iload 4, 2) := by decide +kernel
theorem d_L_law_295 : decode code 295 = .ok (.iconst 2, 1) := by decide +kernel
theorem d_L_law_296 : decode code 296 = .ok (.iadd, 1) := by decide +kernel
theorem d_L_law_297 : decode code 297 = .ok (.iaload, 1) := by decide +kernel
theorem d_L_law_298 : decode code 298 = .ok (.invokevirtual 92, 3) := by decide +kernel
theorem d_L_law_301 : decode code 301 = .ok (.istore 6, 2) := by decide +kernel
theorem d_L_law_303 : decode code 303 = .ok (.aload_n 2, 1) := by decide +kernel
theorem d_L_law_304 : decode code 304 = .ok (.invokevirtual 85, 3) := by decide +kernel
theorem d_L_law_307 : decode code 307 = .ok (.iload 5, 2) := by decide +kernel
theorem d_L_law_309 : decode code 309 = .ok (.if_icmp .eq 5, 3) := by decide +kernel
theorem d_L_law_312 : decode code 312 = .ok (.iconst 0, 1) := by decide +kernel
theorem d_L_law_313 : decode code 313 = .ok (.ireturn, 1) := by decide +kernel
theorem d_L_law_314 : decode code 314 = .ok (.iload 5, 2) := by decide +kernel
theorem d_L_law_316 : decode code 316 = .ok (.ifCond .ne 22, 3) := by decide +kernel
theorem d_L_law_319 : decode code 319 = .ok (.aload_n 3, 1) := by decide +kernel
theorem d_L_law_320 : decode code 320 = .ok (.iconst 0, 1) := by decide +kernel
theorem d_L_law_321 : decode code 321 = .ok (.laload, 1) := by decide +kernel
theorem d_L_law_322 : decode code 322 = .ok (.iload 6, 2) := by decide +kernel
theorem d_L_law_324 : decode code 324 = .ok (.ifCond .eq 7, 3) := by decide +kernel
theorem d_L_law_327 : decode code 327 = .ok (.lconst 1, 1) := by decide +kernel
theorem d_L_law_328 : decode code 328 = .ok (.goto 4, 3) := by decide +kernel
theorem d_L_law_331 : decode code 331 = .ok (.lconst 0, 1) := by decide +kernel
theorem d_L_law_332 : decode code 332 = .ok (.lcmp, 1) := by decide +kernel
theorem d_L_law_333 : decode code 333 = .ok (.ifCond .eq 5, 3) := by decide +kernel
theorem d_L_law_336 : decode code 336 = .ok (.iconst 0, 1) := by decide +kernel
theorem d_L_law_337 : decode code 337 = .ok (.ireturn, 1) := by decide +kernel
theorem d_L_law_338 : decode code 338 = .ok (.goto 1261, 3) := by decide +kernel
theorem d_L_law_341 : decode code 341 = .ok (.aload_n 1, 1) := by decide +kernel
theorem d_L_law_342 : decode code 342 = .ok (.aload_n 0, 1) := by decide +kernel
theorem d_L_law_343 : decode code 343 = .ok (.iload 4, 2) := by decide +kernel
theorem d_L_law_345 : decode code 345 = .ok (.iconst 1, 1) := by decide +kernel
theorem d_L_law_346 : decode code 346 = .ok (.iadd, 1) := by decide +kernel
theorem d_L_law_347 : decode code 347 = .ok (.iaload, 1) := by decide +kernel
theorem d_L_law_348 : decode code 348 = .ok (.i2l, 1) := by decide +kernel
theorem d_L_law_349 : decode code 349 = .ok (.bipush 32, 2) := by decide +kernel
theorem d_L_law_351 : decode code 351 = .ok (.lshl, 1) := by decide +kernel
theorem d_L_law_352 : decode code 352 = .ok (.aload_n 0, 1) := by decide +kernel
theorem d_L_law_353 : decode code 353 = .ok (.iload 4, 2) := by decide +kernel
theorem d_L_law_355 : decode code 355 = .ok (.iconst 2, 1) := by decide +kernel
theorem d_L_law_356 : decode code 356 = .ok (.iadd, 1) := by decide +kernel
theorem d_L_law_357 : decode code 357 = .ok (.iaload, 1) := by decide +kernel
theorem d_L_law_358 : decode code 358 = .ok (.i2l, 1) := by decide +kernel
theorem d_L_law_359 : decode code 359 = .ok (.ldc2_w 79, 3) := by decide +kernel
theorem d_L_law_362 : decode code 362 = .ok (.land, 1) := by decide +kernel
theorem d_L_law_363 : decode code 363 = .ok (.lor, 1) := by decide +kernel
theorem d_L_law_364 : decode code 364 = .ok (.aload_n 0, 1) := by decide +kernel
theorem d_L_law_365 : decode code 365 = .ok (.iload 4, 2) := by decide +kernel
theorem d_L_law_367 : decode code 367 = .ok (.iconst 3, 1) := by decide +kernel
theorem d_L_law_368 : decode code 368 = .ok (.iadd, 1) := by decide +kernel
theorem d_L_law_369 : decode code 369 = .ok (.iaload, 1) := by decide +kernel
theorem d_L_law_370 : decode code 370 = .ok (.i2l, 1) := by decide +kernel
theorem d_L_law_371 : decode code 371 = .ok (.bipush 32, 2) := by decide +kernel
theorem d_L_law_373 : decode code 373 = .ok (.lshl, 1) := by decide +kernel
theorem d_L_law_374 : decode code 374 = .ok (.aload_n 0, 1) := by decide +kernel
theorem d_L_law_375 : decode code 375 = .ok (.iload 4, 2) := by decide +kernel
theorem d_L_law_377 : decode code 377 = .ok (.iconst 4, 1) := by decide +kernel
theorem d_L_law_378 : decode code 378 = .ok (.iadd, 1) := by decide +kernel
theorem d_L_law_379 : decode code 379 = .ok (.iaload, 1) := by decide +kernel
theorem d_L_law_380 : decode code 380 = .ok (.i2l, 1) := by decide +kernel
theorem d_L_law_381 : decode code 381 = .ok (.ldc2_w 79, 3) := by decide +kernel
theorem d_L_law_384 : decode code 384 = .ok (.land, 1) := by decide +kernel
theorem d_L_law_385 : decode code 385 = .ok (.lor, 1) := by decide +kernel
theorem d_L_law_386 : decode code 386 = .ok (.aload_n 0, 1) := by decide +kernel
theorem d_L_law_387 : decode code 387 = .ok (.iload 4, 2) := by decide +kernel
theorem d_L_law_389 : decode code 389 = .ok (.iconst 5, 1) := by decide +kernel
theorem d_L_law_390 : decode code 390 = .ok (.iadd, 1) := by decide +kernel
theorem d_L_law_391 : decode code 391 = .ok (.iaload, 1) := by decide +kernel
theorem d_L_law_392 : decode code 392 = .ok (.i2l, 1) := by decide +kernel
theorem d_L_law_393 : decode code 393 = .ok (.bipush 32, 2) := by decide +kernel
theorem d_L_law_395 : decode code 395 = .ok (.lshl, 1) := by decide +kernel
theorem d_L_law_396 : decode code 396 = .ok (.aload_n 0, 1) := by decide +kernel
theorem d_L_law_397 : decode code 397 = .ok (.iload 4, 2) := by decide +kernel
theorem d_L_law_399 : decode code 399 = .ok (.bipush 6, 2) := by decide +kernel
theorem d_L_law_401 : decode code 401 = .ok (.iadd, 1) := by decide +kernel
theorem d_L_law_402 : decode code 402 = .ok (.iaload, 1) := by decide +kernel
theorem d_L_law_403 : decode code 403 = .ok (.i2l, 1) := by decide +kernel
theorem d_L_law_404 : decode code 404 = .ok (.ldc2_w 79, 3) := by decide +kernel
theorem d_L_law_407 : decode code 407 = .ok (.land, 1) := by decide +kernel
theorem d_L_law_408 : decode code 408 = .ok (.lor, 1) := by decide +kernel
theorem d_L_law_409 : decode code 409 = .ok (.aload_n 0, 1) := by decide +kernel
theorem d_L_law_410 : decode code 410 = .ok (.iload 4, 2) := by decide +kernel
theorem d_L_law_412 : decode code 412 = .ok (.bipush 7, 2) := by decide +kernel
theorem d_L_law_414 : decode code 414 = .ok (.iadd, 1) := by decide +kernel
theorem d_L_law_415 : decode code 415 = .ok (.iaload, 1) := by decide +kernel
theorem d_L_law_416 : decode code 416 = .ok (.i2l, 1) := by decide +kernel
theorem d_L_law_417 : decode code 417 = .ok (.bipush 32, 2) := by decide +kernel
theorem d_L_law_419 : decode code 419 = .ok (.lshl, 1) := by decide +kernel
theorem d_L_law_420 : decode code 420 = .ok (.aload_n 0, 1) := by decide +kernel
theorem d_L_law_421 : decode code 421 = .ok (.iload 4, 2) := by decide +kernel
theorem d_L_law_423 : decode code 423 = .ok (.bipush 8, 2) := by decide +kernel
theorem d_L_law_425 : decode code 425 = .ok (.iadd, 1) := by decide +kernel
theorem d_L_law_426 : decode code 426 = .ok (.iaload, 1) := by decide +kernel
theorem d_L_law_427 : decode code 427 = .ok (.i2l, 1) := by decide +kernel
theorem d_L_law_428 : decode code 428 = .ok (.ldc2_w 79, 3) := by decide +kernel
theorem d_L_law_431 : decode code 431 = .ok (.land, 1) := by decide +kernel
theorem d_L_law_432 : decode code 432 = .ok (.lor, 1) := by decide +kernel
theorem d_L_law_433 : decode code 433 = .ok (.aload_n 3, 1) := by decide +kernel
theorem d_L_law_434 : decode code 434 = .ok (.invokestatic 93, 3) := by decide +kernel
theorem d_L_law_437 : decode code 437 = .ok (.istore 5, 2) := by decide +kernel
theorem d_L_law_439 : decode code 439 = .ok (.aload_n 2, 1) := by decide +kernel
theorem d_L_law_440 : decode code 440 = .ok (.aload_n 0, 1) := by decide +kernel
theorem d_L_law_441 : decode code 441 = .ok (.iload 4, 2) := by decide +kernel
theorem d_L_law_443 : decode code 443 = .ok (.iconst 1, 1) := by decide +kernel
theorem d_L_law_444 : decode code 444 = .ok (.iadd, 1) := by decide +kernel
theorem d_L_law_445 : decode code 445 = .ok (.iaload, 1) := by decide +kernel
theorem d_L_law_446 : decode code 446 = .ok (.i2l, 1) := by decide +kernel
theorem d_L_law_447 : decode code 447 = .ok (.bipush 32, 2) := by decide +kernel
theorem d_L_law_449 : decode code 449 = .ok (.lshl, 1) := by decide +kernel
theorem d_L_law_450 : decode code 450 = .ok (.aload_n 0, 1) := by decide +kernel
theorem d_L_law_451 : decode code 451 = .ok (.iload 4, 2) := by decide +kernel
theorem d_L_law_453 : decode code 453 = .ok (.iconst 2, 1) := by decide +kernel
theorem d_L_law_454 : decode code 454 = .ok (.iadd, 1) := by decide +kernel
theorem d_L_law_455 : decode code 455 = .ok (.iaload, 1) := by decide +kernel
theorem d_L_law_456 : decode code 456 = .ok (.i2l, 1) := by decide +kernel
theorem d_L_law_457 : decode code 457 = .ok (.ldc2_w 79, 3) := by decide +kernel
theorem d_L_law_460 : decode code 460 = .ok (.land, 1) := by decide +kernel
theorem d_L_law_461 : decode code 461 = .ok (.lor, 1) := by decide +kernel
theorem d_L_law_462 : decode code 462 = .ok (.aload_n 0, 1) := by decide +kernel
theorem d_L_law_463 : decode code 463 = .ok (.iload 4, 2) := by decide +kernel
theorem d_L_law_465 : decode code 465 = .ok (.iconst 3, 1) := by decide +kernel
theorem d_L_law_466 : decode code 466 = .ok (.iadd, 1) := by decide +kernel
theorem d_L_law_467 : decode code 467 = .ok (.iaload, 1) := by decide +kernel
theorem d_L_law_468 : decode code 468 = .ok (.i2l, 1) := by decide +kernel
theorem d_L_law_469 : decode code 469 = .ok (.bipush 32, 2) := by decide +kernel
theorem d_L_law_471 : decode code 471 = .ok (.lshl, 1) := by decide +kernel
theorem d_L_law_472 : decode code 472 = .ok (.aload_n 0, 1) := by decide +kernel
theorem d_L_law_473 : decode code 473 = .ok (.iload 4, 2) := by decide +kernel
theorem d_L_law_475 : decode code 475 = .ok (.iconst 4, 1) := by decide +kernel
theorem d_L_law_476 : decode code 476 = .ok (.iadd, 1) := by decide +kernel
theorem d_L_law_477 : decode code 477 = .ok (.iaload, 1) := by decide +kernel
theorem d_L_law_478 : decode code 478 = .ok (.i2l, 1) := by decide +kernel
theorem d_L_law_479 : decode code 479 = .ok (.ldc2_w 79, 3) := by decide +kernel
theorem d_L_law_482 : decode code 482 = .ok (.land, 1) := by decide +kernel
theorem d_L_law_483 : decode code 483 = .ok (.lor, 1) := by decide +kernel
theorem d_L_law_484 : decode code 484 = .ok (.aload_n 0, 1) := by decide +kernel
theorem d_L_law_485 : decode code 485 = .ok (.iload 4, 2) := by decide +kernel
theorem d_L_law_487 : decode code 487 = .ok (.iconst 5, 1) := by decide +kernel
theorem d_L_law_488 : decode code 488 = .ok (.iadd, 1) := by decide +kernel
theorem d_L_law_489 : decode code 489 = .ok (.iaload, 1) := by decide +kernel
theorem d_L_law_490 : decode code 490 = .ok (.i2l, 1) := by decide +kernel
theorem d_L_law_491 : decode code 491 = .ok (.bipush 32, 2) := by decide +kernel
theorem d_L_law_493 : decode code 493 = .ok (.lshl, 1) := by decide +kernel
theorem d_L_law_494 : decode code 494 = .ok (.aload_n 0, 1) := by decide +kernel
theorem d_L_law_495 : decode code 495 = .ok (.iload 4, 2) := by decide +kernel
theorem d_L_law_497 : decode code 497 = .ok (.bipush 6, 2) := by decide +kernel
theorem d_L_law_499 : decode code 499 = .ok (.iadd, 1) := by decide +kernel
theorem d_L_law_500 : decode code 500 = .ok (.iaload, 1) := by decide +kernel
theorem d_L_law_501 : decode code 501 = .ok (.i2l, 1) := by decide +kernel
theorem d_L_law_502 : decode code 502 = .ok (.ldc2_w 79, 3) := by decide +kernel
