theorem dLa_law_296 : decode code 296 = .ok (.invokevirtual 45, 3) := by decide +kernel
theorem dLa_law_299 : decode code 299 = .ok (.aload_n 2, 1) := by decide +kernel
theorem dLa_law_300 : decode code 300 = .ok (.invokevirtual 48, 3) := by decide +kernel
theorem dLa_law_303 : decode code 303 = .ok (.if_icmp .eq 207, 3) := by decide +kernel
theorem dLa_law_306 : decode code 306 = .ok (.iconst 0, 1) := by decide +kernel
theorem dLa_law_307 : decode code 307 = .ok (.ireturn, 1) := by decide +kernel
theorem dLa_law_308 : decode code 308 = .ok (.aload_n 1, 1) := by decide +kernel
theorem dLa_law_309 : decode code 309 = .ok (.invokevirtual 49, 3) := by decide +kernel
theorem dLa_law_312 : decode code 312 = .ok (.aload_n 2, 1) := by decide +kernel
theorem dLa_law_313 : decode code 313 = .ok (.invokevirtual 52, 3) := by decide +kernel
theorem dLa_law_316 : decode code 316 = .ok (.if_icmp .eq 194, 3) := by decide +kernel
theorem dLa_law_319 : decode code 319 = .ok (.iconst 0, 1) := by decide +kernel
theorem dLa_law_320 : decode code 320 = .ok (.ireturn, 1) := by decide +kernel
theorem dLa_law_321 : decode code 321 = .ok (.aload_n 1, 1) := by decide +kernel
theorem dLa_law_322 : decode code 322 = .ok (.invokevirtual 53, 3) := by decide +kernel
theorem dLa_law_325 : decode code 325 = .ok (.aload_n 2, 1) := by decide +kernel
theorem dLa_law_326 : decode code 326 = .ok (.invokevirtual 56, 3) := by decide +kernel
theorem dLa_law_329 : decode code 329 = .ok (.if_icmp .eq 181, 3) := by decide +kernel
theorem dLa_law_332 : decode code 332 = .ok (.iconst 0, 1) := by decide +kernel
theorem dLa_law_333 : decode code 333 = .ok (.ireturn, 1) := by decide +kernel
theorem dLa_law_334 : decode code 334 = .ok (.aload_n 1, 1) := by decide +kernel
theorem dLa_law_335 : decode code 335 = .ok (.aload_n 0, 1) := by decide +kernel
theorem dLa_law_336 : decode code 336 = .ok (.iload_n 3, 1) := by decide +kernel
theorem dLa_law_337 : decode code 337 = .ok (.iconst 1, 1) := by decide +kernel
theorem dLa_law_338 : decode code 338 = .ok (.iadd, 1) := by decide +kernel
theorem dLa_law_339 : decode code 339 = .ok (.iaload, 1) := by decide +kernel
theorem dLa_law_340 : decode code 340 = .ok (.aload_n 0, 1) := by decide +kernel
theorem dLa_law_341 : decode code 341 = .ok (.iload_n 3, 1) := by decide +kernel
theorem dLa_law_342 : decode code 342 = .ok (.iconst 2, 1) := by decide +kernel
theorem dLa_law_343 : decode code 343 = .ok (.iadd, 1) := by decide +kernel
theorem dLa_law_344 : decode code 344 = .ok (.iaload, 1) := by decide +kernel
theorem dLa_law_345 : decode code 345 = .ok (.invokevirtual 57, 3) := by decide +kernel
theorem dLa_law_348 : decode code 348 = .ok (.aload_n 2, 1) := by decide +kernel
theorem dLa_law_349 : decode code 349 = .ok (.aload_n 0, 1) := by decide +kernel
theorem dLa_law_350 : decode code 350 = .ok (.iload_n 3, 1) := by decide +kernel
theorem dLa_law_351 : decode code 351 = .ok (.iconst 1, 1) := by decide +kernel
theorem dLa_law_352 : decode code 352 = .ok (.iadd, 1) := by decide +kernel
theorem dLa_law_353 : decode code 353 = .ok (.iaload, 1) := by decide +kernel
theorem dLa_law_354 : decode code 354 = .ok (.aload_n 0, 1) := by decide +kernel
theorem dLa_law_355 : decode code 355 = .ok (.iload_n 3, 1) := by decide +kernel
theorem dLa_law_356 : decode code 356 = .ok (.iconst 2, 1) := by decide +kernel
theorem dLa_law_357 : decode code 357 = .ok (.iadd, 1) := by decide +kernel
theorem dLa_law_358 : decode code 358 = .ok (.iaload, 1) := by decide +kernel
theorem dLa_law_359 : decode code 359 = .ok (.invokevirtual 60, 3) := by decide +kernel
theorem dLa_law_362 : decode code 362 = .ok (.if_icmp .eq 148, 3) := by decide +kernel
theorem dLa_law_365 : decode code 365 = .ok (.iconst 0, 1) := by decide +kernel
theorem dLa_law_366 : decode code 366 = .ok (.ireturn, 1) := by decide +kernel
theorem dLa_law_367 : decode code 367 = .ok (.aload_n 1, 1) := by decide +kernel
theorem dLa_law_368 : decode code 368 = .ok (.aload_n 0, 1) := by decide +kernel
theorem dLa_law_369 : decode code 369 = .ok (.iload_n 3, 1) := by decide +kernel
theorem dLa_law_370 : decode code 370 = .ok (.iconst 1, 1) := by decide +kernel
theorem dLa_law_371 : decode code 371 = .ok (.iadd, 1) := by decide +kernel
theorem dLa_law_372 : decode code 372 = .ok (.iaload, 1) := by decide +kernel
theorem dLa_law_373 : decode code 373 = .ok (.aload_n 0, 1) := by decide +kernel
theorem dLa_law_374 : decode code 374 = .ok (.iload_n 3, 1) := by decide +kernel
theorem dLa_law_375 : decode code 375 = .ok (.iconst 2, 1) := by decide +kernel
theorem dLa_law_376 : decode code 376 = .ok (.iadd, 1) := by decide +kernel
theorem dLa_law_377 : decode code 377 = .ok (.iaload, 1) := by decide +kernel
theorem dLa_law_378 : decode code 378 = .ok (.aload_n 0, 1) := by decide +kernel
theorem dLa_law_379 : decode code 379 = .ok (.iload_n 3, 1) := by decide +kernel
theorem dLa_law_380 : decode code 380 = .ok (.iconst 3, 1) := by decide +kernel
theorem dLa_law_381 : decode code 381 = .ok (.iadd, 1) := by decide +kernel
theorem dLa_law_382 : decode code 382 = .ok (.iaload, 1) := by decide +kernel
theorem dLa_law_383 : decode code 383 = .ok (.invokevirtual 61, 3) := by decide +kernel
theorem dLa_law_386 : decode code 386 = .ok (.aload_n 2, 1) := by decide +kernel
theorem dLa_law_387 : decode code 387 = .ok (.aload_n 0, 1) := by decide +kernel
theorem dLa_law_388 : decode code 388 = .ok (.iload_n 3, 1) := by decide +kernel
theorem dLa_law_389 : decode code 389 = .ok (.iconst 1, 1) := by decide +kernel
theorem dLa_law_390 : decode code 390 = .ok (.iadd, 1) := by decide +kernel
theorem dLa_law_391 : decode code 391 = .ok (.iaload, 1) := by decide +kernel
theorem dLa_law_392 : decode code 392 = .ok (.aload_n 0, 1) := by decide +kernel
theorem dLa_law_393 : decode code 393 = .ok (.iload_n 3, 1) := by decide +kernel
theorem dLa_law_394 : decode code 394 = .ok (.iconst 2, 1) := by decide +kernel
theorem dLa_law_395 : decode code 395 = .ok (.iadd, 1) := by decide +kernel
theorem dLa_law_396 : decode code 396 = .ok (.iaload, 1) := by decide +kernel
theorem dLa_law_397 : decode code 397 = .ok (.aload_n 0, 1) := by decide +kernel
theorem dLa_law_398 : decode code 398 = .ok (.iload_n 3, 1) := by decide +kernel
theorem dLa_law_399 : decode code 399 = .ok (.iconst 3, 1) := by decide +kernel
theorem dLa_law_400 : decode code 400 = .ok (.iadd, 1) := by decide +kernel
theorem dLa_law_401 : decode code 401 = .ok (.iaload, 1) := by decide +kernel
theorem dLa_law_402 : decode code 402 = .ok (.invokevirtual 64, 3) := by decide +kernel
theorem dLa_law_405 : decode code 405 = .ok (.if_icmp .eq 105, 3) := by decide +kernel
theorem dLa_law_408 : decode code 408 = .ok (.iconst 0, 1) := by decide +kernel
theorem dLa_law_409 : decode code 409 = .ok (.ireturn, 1) := by decide +kernel
theorem dLa_law_410 : decode code 410 = .ok (.aload_n 1, 1) := by decide +kernel
theorem dLa_law_411 : decode code 411 = .ok (.invokevirtual 65, 3) := by decide +kernel
theorem dLa_law_414 : decode code 414 = .ok (.aload_n 2, 1) := by decide +kernel
theorem dLa_law_415 : decode code 415 = .ok (.invokevirtual 68, 3) := by decide +kernel
theorem dLa_law_418 : decode code 418 = .ok (.goto 92, 3) := by decide +kernel
theorem dLa_law_421 : decode code 421 = .ok (.aload_n 1, 1) := by decide +kernel
theorem dLa_law_422 : decode code 422 = .ok (.aload_n 0, 1) := by decide +kernel
theorem dLa_law_423 : decode code 423 = .ok (.iload_n 3, 1) := by decide +kernel
theorem dLa_law_424 : decode code 424 = .ok (.iconst 1, 1) := by decide +kernel
theorem dLa_law_425 : decode code 425 = .ok (.iadd, 1) := by decide +kernel
theorem dLa_law_426 : decode code 426 = .ok (.iaload, 1) := by decide +kernel
theorem dLa_law_427 : decode code 427 = .ok (.aload_n 0, 1) := by decide +kernel
theorem dLa_law_428 : decode code 428 = .ok (.iload_n 3, 1) := by decide +kernel
theorem dLa_law_429 : decode code 429 = .ok (.iconst 2, 1) := by decide +kernel
theorem dLa_law_430 : decode code 430 = .ok (.iadd, 1) := by decide +kernel
theorem dLa_law_431 : decode code 431 = .ok (.iaload, 1) := by decide +kernel
theorem dLa_law_432 : decode code 432 = .ok (.aload_n 0, 1) := by decide +kernel
theorem dLa_law_433 : decode code 433 = .ok (.iload_n 3, 1) := by decide +kernel
theorem dLa_law_434 : decode code 434 = .ok (.iconst 3, 1) := by decide +kernel
theorem dLa_law_435 : decode code 435 = .ok (.iadd, 1) := by decide +kernel
theorem dLa_law_436 : decode code 436 = .ok (.iaload, 1) := by decide +kernel
theorem dLa_law_437 : decode code 437 = .ok (.invokevirtual 69, 3) := by decide +kernel
theorem dLa_law_440 : decode code 440 = .ok (.aload_n 2, 1) := by decide +kernel
theorem dLa_law_441 : decode code 441 = .ok (.aload_n 0, 1) := by decide +kernel
theorem dLa_law_442 : decode code 442 = .ok (.iload_n 3, 1) := by decide +kernel
theorem dLa_law_443 : decode code 443 = .ok (.iconst 1, 1) := by decide +kernel
theorem dLa_law_444 : decode code 444 = .ok (.iadd, 1) := by decide +kernel
theorem dLa_law_445 : decode code 445 = .ok (.iaload, 1) := by decide +kernel
theorem dLa_law_446 : decode code 446 = .ok (.aload_n 0, 1) := by decide +kernel
theorem dLa_law_447 : decode code 447 = .ok (.iload_n 3, 1) := by decide +kernel
theorem dLa_law_448 : decode code 448 = .ok (.iconst 2, 1) := by decide +kernel
theorem dLa_law_449 : decode code 449 = .ok (.iadd, 1) := by decide +kernel
theorem dLa_law_450 : decode code 450 = .ok (.iaload, 1) := by decide +kernel
theorem dLa_law_451 : decode code 451 = .ok (.aload_n 0, 1) := by decide +kernel
theorem dLa_law_452 : decode code 452 = .ok (.iload_n 3, 1) := by decide +kernel
theorem dLa_law_453 : decode code 453 = .ok (.iconst 3, 1) := by decide +kernel
theorem dLa_law_454 : decode code 454 = .ok (.iadd, 1) := by decide +kernel
theorem dLa_law_455 : decode code 455 = .ok (.iaload, 1) := by decide +kernel
theorem dLa_law_456 : decode code 456 = .ok (.invokevirtual 72, 3) := by decide +kernel
theorem dLa_law_459 : decode code 459 = .ok (.if_icmp .eq 51, 3) := by decide +kernel
theorem dLa_law_462 : decode code 462 = .ok (.iconst 0, 1) := by decide +kernel
theorem dLa_law_463 : decode code 463 = .ok (.ireturn, 1) := by decide +kernel
theorem dLa_law_464 : decode code 464 = .ok (.aload_n 1, 1) := by decide +kernel
theorem dLa_law_465 : decode code 465 = .ok (.aload_n 0, 1) := by decide +kernel
theorem dLa_law_466 : decode code 466 = .ok (.iload_n 3, 1) := by decide +kernel
theorem dLa_law_467 : decode code 467 = .ok (.iconst 1, 1) := by decide +kernel
theorem dLa_law_468 : decode code 468 = .ok (.iadd, 1) := by decide +kernel
theorem dLa_law_469 : decode code 469 = .ok (.iaload, 1) := by decide +kernel
theorem dLa_law_470 : decode code 470 = .ok (.aload_n 0, 1) := by decide +kernel
theorem dLa_law_471 : decode code 471 = .ok (.iload_n 3, 1) := by decide +kernel
theorem dLa_law_472 : decode code 472 = .ok (.iconst 2, 1) := by decide +kernel
theorem dLa_law_473 : decode code 473 = .ok (.iadd, 1) := by decide +kernel
theorem dLa_law_474 : decode code 474 = .ok (.iaload, 1) := by decide +kernel
theorem dLa_law_475 : decode code 475 = .ok (.invokevirtual 73, 3) := by decide +kernel
theorem dLa_law_478 : decode code 478 = .ok (.aload_n 2, 1) := by decide +kernel
theorem dLa_law_479 : decode code 479 = .ok (.aload_n 0, 1) := by decide +kernel
theorem dLa_law_480 : decode code 480 = .ok (.iload_n 3, 1) := by decide +kernel
theorem dLa_law_481 : decode code 481 = .ok (.iconst 1, 1) := by decide +kernel
theorem dLa_law_482 : decode code 482 = .ok (.iadd, 1) := by decide +kernel
theorem dLa_law_483 : decode code 483 = .ok (.iaload, 1) := by decide +kernel
theorem dLa_law_484 : decode code 484 = .ok (.aload_n 0, 1) := by decide +kernel
theorem dLa_law_485 : decode code 485 = .ok (.iload_n 3, 1) := by decide +kernel
theorem dLa_law_486 : decode code 486 = .ok (.iconst 2, 1) := by decide +kernel
theorem dLa_law_487 : decode code 487 = .ok (.iadd, 1) := by decide +kernel
theorem dLa_law_488 : decode code 488 = .ok (.iaload, 1) := by decide +kernel
theorem dLa_law_489 : decode code 489 = .ok (.invokevirtual 76, 3) := by decide +kernel
theorem dLa_law_492 : decode code 492 = .ok (.if_icmp .eq 18, 3) := by decide +kernel
theorem dLa_law_495 : decode code 495 = .ok (.iconst 0, 1) := by decide +kernel
theorem dLa_law_496 : decode code 496 = .ok (.ireturn, 1) := by decide +kernel
theorem dLa_law_497 : decode code 497 = .ok (.aload_n 1, 1) := by decide +kernel
theorem dLa_law_498 : decode code 498 = .ok (.invokevirtual 77, 3) := by decide +kernel
theorem dLa_law_501 : decode code 501 = .ok (.aload_n 2, 1) := by decide +kernel
theorem dLa_law_502 : decode code 502 = .ok (.invokevirtual 80, 3) := by decide +kernel
theorem dLa_law_505 : decode code 505 = .ok (.if_icmp .eq 5, 3) := by decide +kernel
theorem dLa_law_508 : decode code 508 = .ok (.iconst 0, 1) := by decide +kernel
theorem dLa_law_509 : decode code 509 = .ok (.ireturn, 1) := by decide +kernel
theorem dLa_law_510 : decode code 510 = .ok (.iinc 3 4, 3) := by decide +kernel
theorem dLa_law_513 : decode code 513 = .ok (.goto (-495), 3) := by decide +kernel
theorem dLa_law_516 : decode code 516 = .ok (.iconst 1, 1) := by decide +kernel
theorem dLa_law_517 : decode code 517 = .ok (.ireturn, 1) := by decide +kernel
theorem dLa_law_32 : decode code 32 = .ok (.tableswitch 478 0 15 #[80, 105, 118, 131, 164, 207, 250, 263, 276, 289, 302, 335, 378, 389, 432, 465], 80) := by decide +kernel
