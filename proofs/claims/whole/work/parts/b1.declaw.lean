/-! decode rows of the law (written by program) -/
theorem d_lw_296 : decode code 296 = .ok (.istore 5, 2) := by decide +kernel
theorem d_lw_298 : decode code 298 = .ok (.aload_n 2, 1) := by decide +kernel
theorem d_lw_299 : decode code 299 = .ok (.aload_n 0, 1) := by decide +kernel
theorem d_lw_300 : decode code 300 = .ok (.iload 4, 2) := by decide +kernel
theorem d_lw_302 : decode code 302 = .ok (.iconst 1, 1) := by decide +kernel
theorem d_lw_303 : decode code 303 = .ok (.iadd, 1) := by decide +kernel
theorem d_lw_304 : decode code 304 = .ok (.iaload, 1) := by decide +kernel
theorem d_lw_305 : decode code 305 = .ok (.invokevirtual 94, 3) := by decide +kernel
theorem d_lw_308 : decode code 308 = .ok (.istore 6, 2) := by decide +kernel
theorem d_lw_310 : decode code 310 = .ok (.aload_n 2, 1) := by decide +kernel
theorem d_lw_311 : decode code 311 = .ok (.invokevirtual 85, 3) := by decide +kernel
theorem d_lw_314 : decode code 314 = .ok (.iload 5, 2) := by decide +kernel
theorem d_lw_316 : decode code 316 = .ok (.if_icmp .eq 5, 3) := by decide +kernel
theorem d_lw_319 : decode code 319 = .ok (.iconst 0, 1) := by decide +kernel
theorem d_lw_320 : decode code 320 = .ok (.ireturn, 1) := by decide +kernel
theorem d_lw_321 : decode code 321 = .ok (.iload 5, 2) := by decide +kernel
theorem d_lw_323 : decode code 323 = .ok (.ifCond .ne 15, 3) := by decide +kernel
theorem d_lw_326 : decode code 326 = .ok (.aload_n 3, 1) := by decide +kernel
theorem d_lw_327 : decode code 327 = .ok (.iconst 0, 1) := by decide +kernel
theorem d_lw_328 : decode code 328 = .ok (.laload, 1) := by decide +kernel
theorem d_lw_329 : decode code 329 = .ok (.iload 6, 2) := by decide +kernel
theorem d_lw_331 : decode code 331 = .ok (.i2l, 1) := by decide +kernel
theorem d_lw_332 : decode code 332 = .ok (.lcmp, 1) := by decide +kernel
theorem d_lw_333 : decode code 333 = .ok (.ifCond .eq 5, 3) := by decide +kernel
theorem d_lw_336 : decode code 336 = .ok (.iconst 0, 1) := by decide +kernel
theorem d_lw_337 : decode code 337 = .ok (.ireturn, 1) := by decide +kernel
theorem d_lw_338 : decode code 338 = .ok (.goto 815, 3) := by decide +kernel
theorem d_lw_341 : decode code 341 = .ok (.aload_n 1, 1) := by decide +kernel
theorem d_lw_342 : decode code 342 = .ok (.aload_n 0, 1) := by decide +kernel
theorem d_lw_343 : decode code 343 = .ok (.iload 4, 2) := by decide +kernel
theorem d_lw_345 : decode code 345 = .ok (.iconst 1, 1) := by decide +kernel
theorem d_lw_346 : decode code 346 = .ok (.iadd, 1) := by decide +kernel
theorem d_lw_347 : decode code 347 = .ok (.iaload, 1) := by decide +kernel
theorem d_lw_348 : decode code 348 = .ok (.aload_n 3, 1) := by decide +kernel
theorem d_lw_349 : decode code 349 = .ok (.invokestatic 95, 3) := by decide +kernel
theorem d_lw_352 : decode code 352 = .ok (.istore 5, 2) := by decide +kernel
theorem d_lw_354 : decode code 354 = .ok (.aload_n 2, 1) := by decide +kernel
theorem d_lw_355 : decode code 355 = .ok (.aload_n 0, 1) := by decide +kernel
theorem d_lw_356 : decode code 356 = .ok (.iload 4, 2) := by decide +kernel
theorem d_lw_358 : decode code 358 = .ok (.iconst 1, 1) := by decide +kernel
theorem d_lw_359 : decode code 359 = .ok (.iadd, 1) := by decide +kernel
theorem d_lw_360 : decode code 360 = .ok (.iaload, 1) := by decide +kernel
theorem d_lw_361 : decode code 361 = .ok (.invokevirtual 97, 3) := by decide +kernel
theorem d_lw_364 : decode code 364 = .ok (.istore 6, 2) := by decide +kernel
theorem d_lw_366 : decode code 366 = .ok (.aload_n 2, 1) := by decide +kernel
theorem d_lw_367 : decode code 367 = .ok (.invokevirtual 85, 3) := by decide +kernel
theorem d_lw_370 : decode code 370 = .ok (.iload 5, 2) := by decide +kernel
theorem d_lw_372 : decode code 372 = .ok (.if_icmp .eq 5, 3) := by decide +kernel
theorem d_lw_375 : decode code 375 = .ok (.iconst 0, 1) := by decide +kernel
theorem d_lw_376 : decode code 376 = .ok (.ireturn, 1) := by decide +kernel
theorem d_lw_377 : decode code 377 = .ok (.iload 5, 2) := by decide +kernel
theorem d_lw_379 : decode code 379 = .ok (.ifCond .ne 15, 3) := by decide +kernel
theorem d_lw_382 : decode code 382 = .ok (.aload_n 3, 1) := by decide +kernel
theorem d_lw_383 : decode code 383 = .ok (.iconst 0, 1) := by decide +kernel
theorem d_lw_384 : decode code 384 = .ok (.laload, 1) := by decide +kernel
theorem d_lw_385 : decode code 385 = .ok (.iload 6, 2) := by decide +kernel
theorem d_lw_387 : decode code 387 = .ok (.i2l, 1) := by decide +kernel
theorem d_lw_388 : decode code 388 = .ok (.lcmp, 1) := by decide +kernel
theorem d_lw_389 : decode code 389 = .ok (.ifCond .eq 5, 3) := by decide +kernel
theorem d_lw_392 : decode code 392 = .ok (.iconst 0, 1) := by decide +kernel
theorem d_lw_393 : decode code 393 = .ok (.ireturn, 1) := by decide +kernel
theorem d_lw_394 : decode code 394 = .ok (.goto 759, 3) := by decide +kernel
theorem d_lw_397 : decode code 397 = .ok (.aload_n 1, 1) := by decide +kernel
theorem d_lw_398 : decode code 398 = .ok (.aload_n 0, 1) := by decide +kernel
theorem d_lw_399 : decode code 399 = .ok (.iload 4, 2) := by decide +kernel
theorem d_lw_401 : decode code 401 = .ok (.iconst 1, 1) := by decide +kernel
theorem d_lw_402 : decode code 402 = .ok (.iadd, 1) := by decide +kernel
theorem d_lw_403 : decode code 403 = .ok (.iaload, 1) := by decide +kernel
theorem d_lw_404 : decode code 404 = .ok (.invokestatic 98, 3) := by decide +kernel
theorem d_lw_407 : decode code 407 = .ok (.istore 5, 2) := by decide +kernel
theorem d_lw_409 : decode code 409 = .ok (.aload_n 2, 1) := by decide +kernel
theorem d_lw_410 : decode code 410 = .ok (.aload_n 0, 1) := by decide +kernel
theorem d_lw_411 : decode code 411 = .ok (.iload 4, 2) := by decide +kernel
theorem d_lw_413 : decode code 413 = .ok (.iconst 1, 1) := by decide +kernel
theorem d_lw_414 : decode code 414 = .ok (.iadd, 1) := by decide +kernel
theorem d_lw_415 : decode code 415 = .ok (.iaload, 1) := by decide +kernel
theorem d_lw_416 : decode code 416 = .ok (.invokevirtual 101, 3) := by decide +kernel
theorem d_lw_419 : decode code 419 = .ok (.aload_n 2, 1) := by decide +kernel
theorem d_lw_420 : decode code 420 = .ok (.invokevirtual 85, 3) := by decide +kernel
theorem d_lw_423 : decode code 423 = .ok (.iload 5, 2) := by decide +kernel
theorem d_lw_425 : decode code 425 = .ok (.if_icmp .eq 5, 3) := by decide +kernel
theorem d_lw_428 : decode code 428 = .ok (.iconst 0, 1) := by decide +kernel
theorem d_lw_429 : decode code 429 = .ok (.ireturn, 1) := by decide +kernel
theorem d_lw_430 : decode code 430 = .ok (.goto 723, 3) := by decide +kernel
theorem d_lw_433 : decode code 433 = .ok (.aload_n 1, 1) := by decide +kernel
theorem d_lw_434 : decode code 434 = .ok (.aload_n 0, 1) := by decide +kernel
theorem d_lw_435 : decode code 435 = .ok (.iload 4, 2) := by decide +kernel
theorem d_lw_437 : decode code 437 = .ok (.iconst 1, 1) := by decide +kernel
theorem d_lw_438 : decode code 438 = .ok (.iadd, 1) := by decide +kernel
theorem d_lw_439 : decode code 439 = .ok (.iaload, 1) := by decide +kernel
theorem d_lw_440 : decode code 440 = .ok (.invokestatic 102, 3) := by decide +kernel
theorem d_lw_443 : decode code 443 = .ok (.istore 5, 2) := by decide +kernel
theorem d_lw_445 : decode code 445 = .ok (.aload_n 2, 1) := by decide +kernel
theorem d_lw_446 : decode code 446 = .ok (.aload_n 0, 1) := by decide +kernel
theorem d_lw_447 : decode code 447 = .ok (.iload 4, 2) := by decide +kernel
theorem d_lw_449 : decode code 449 = .ok (.iconst 1, 1) := by decide +kernel
theorem d_lw_450 : decode code 450 = .ok (.iadd, 1) := by decide +kernel
theorem d_lw_451 : decode code 451 = .ok (.iaload, 1) := by decide +kernel
theorem d_lw_452 : decode code 452 = .ok (.invokevirtual 104, 3) := by decide +kernel
theorem d_lw_455 : decode code 455 = .ok (.aload_n 2, 1) := by decide +kernel
theorem d_lw_456 : decode code 456 = .ok (.invokevirtual 85, 3) := by decide +kernel
theorem d_lw_459 : decode code 459 = .ok (.iload 5, 2) := by decide +kernel
theorem d_lw_461 : decode code 461 = .ok (.if_icmp .eq 5, 3) := by decide +kernel
theorem d_lw_464 : decode code 464 = .ok (.iconst 0, 1) := by decide +kernel
theorem d_lw_465 : decode code 465 = .ok (.ireturn, 1) := by decide +kernel
theorem d_lw_466 : decode code 466 = .ok (.goto 687, 3) := by decide +kernel
theorem d_lw_469 : decode code 469 = .ok (.aload_n 1, 1) := by decide +kernel
theorem d_lw_470 : decode code 470 = .ok (.invokevirtual 105, 3) := by decide +kernel
theorem d_lw_473 : decode code 473 = .ok (.aload_n 2, 1) := by decide +kernel
theorem d_lw_474 : decode code 474 = .ok (.invokevirtual 108, 3) := by decide +kernel
theorem d_lw_477 : decode code 477 = .ok (.if_icmp .eq 676, 3) := by decide +kernel
theorem d_lw_480 : decode code 480 = .ok (.iconst 0, 1) := by decide +kernel
theorem d_lw_481 : decode code 481 = .ok (.ireturn, 1) := by decide +kernel
theorem d_lw_482 : decode code 482 = .ok (.aload_n 1, 1) := by decide +kernel
theorem d_lw_483 : decode code 483 = .ok (.aload_n 0, 1) := by decide +kernel
theorem d_lw_484 : decode code 484 = .ok (.iload 4, 2) := by decide +kernel
theorem d_lw_486 : decode code 486 = .ok (.iconst 1, 1) := by decide +kernel
theorem d_lw_487 : decode code 487 = .ok (.iadd, 1) := by decide +kernel
theorem d_lw_488 : decode code 488 = .ok (.iaload, 1) := by decide +kernel
theorem d_lw_489 : decode code 489 = .ok (.aload_n 0, 1) := by decide +kernel
theorem d_lw_490 : decode code 490 = .ok (.iload 4, 2) := by decide +kernel
theorem d_lw_492 : decode code 492 = .ok (.iconst 2, 1) := by decide +kernel
theorem d_lw_493 : decode code 493 = .ok (.iadd, 1) := by decide +kernel
theorem d_lw_494 : decode code 494 = .ok (.iaload, 1) := by decide +kernel
theorem d_lw_495 : decode code 495 = .ok (.aload_n 3, 1) := by decide +kernel
theorem d_lw_496 : decode code 496 = .ok (.invokestatic 109, 3) := by decide +kernel
theorem d_lw_499 : decode code 499 = .ok (.istore 5, 2) := by decide +kernel
theorem d_lw_501 : decode code 501 = .ok (.aload_n 2, 1) := by decide +kernel
theorem d_lw_502 : decode code 502 = .ok (.aload_n 0, 1) := by decide +kernel
theorem d_lw_503 : decode code 503 = .ok (.iload 4, 2) := by decide +kernel
theorem d_lw_505 : decode code 505 = .ok (.iconst 1, 1) := by decide +kernel
theorem d_lw_506 : decode code 506 = .ok (.iadd, 1) := by decide +kernel
theorem d_lw_507 : decode code 507 = .ok (.iaload, 1) := by decide +kernel
theorem d_lw_508 : decode code 508 = .ok (.aload_n 0, 1) := by decide +kernel
theorem d_lw_509 : decode code 509 = .ok (.iload 4, 2) := by decide +kernel
theorem d_lw_511 : decode code 511 = .ok (.iconst 2, 1) := by decide +kernel
theorem d_lw_512 : decode code 512 = .ok (.iadd, 1) := by decide +kernel
theorem d_lw_513 : decode code 513 = .ok (.iaload, 1) := by decide +kernel
theorem d_lw_514 : decode code 514 = .ok (.invokevirtual 112, 3) := by decide +kernel
theorem d_lw_517 : decode code 517 = .ok (.istore 6, 2) := by decide +kernel
