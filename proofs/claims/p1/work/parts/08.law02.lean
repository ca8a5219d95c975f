theorem dL_law_369 : decode code 369 = .ok (.iadd, 1) := by decide +kernel
theorem dL_law_370 : decode code 370 = .ok (.iaload, 1) := by decide +kernel
theorem dL_law_371 : decode code 371 = .ok (.aload_n 0, 1) := by decide +kernel
theorem dL_law_372 : decode code 372 = .ok (.iload 4, 2) := by decide +kernel
theorem dL_law_374 : decode code 374 = .ok (.iconst 2, 1) := by decide +kernel
theorem dL_law_375 : decode code 375 = .ok (.iadd, 1) := by decide +kernel
theorem dL_law_376 : decode code 376 = .ok (.iaload, 1) := by decide +kernel
theorem dL_law_377 : decode code 377 = .ok (.i2l, 1) := by decide +kernel
theorem dL_law_378 : decode code 378 = .ok (.bipush 32, 2) := by decide +kernel
theorem dL_law_380 : decode code 380 = .ok (.lshl, 1) := by decide +kernel
theorem dL_law_381 : decode code 381 = .ok (.aload_n 0, 1) := by decide +kernel
theorem dL_law_382 : decode code 382 = .ok (.iload 4, 2) := by decide +kernel
theorem dL_law_384 : decode code 384 = .ok (.iconst 3, 1) := by decide +kernel
theorem dL_law_385 : decode code 385 = .ok (.iadd, 1) := by decide +kernel
theorem dL_law_386 : decode code 386 = .ok (.iaload, 1) := by decide +kernel
theorem dL_law_387 : decode code 387 = .ok (.i2l, 1) := by decide +kernel
theorem dL_law_388 : decode code 388 = .ok (.ldc2_w 75, 3) := by decide +kernel
theorem dL_law_391 : decode code 391 = .ok (.land, 1) := by decide +kernel
theorem dL_law_392 : decode code 392 = .ok (.lor, 1) := by decide +kernel
theorem dL_law_393 : decode code 393 = .ok (.aload_n 0, 1) := by decide +kernel
theorem dL_law_394 : decode code 394 = .ok (.iload 4, 2) := by decide +kernel
theorem dL_law_396 : decode code 396 = .ok (.iconst 4, 1) := by decide +kernel
theorem dL_law_397 : decode code 397 = .ok (.iadd, 1) := by decide +kernel
theorem dL_law_398 : decode code 398 = .ok (.iaload, 1) := by decide +kernel
theorem dL_law_399 : decode code 399 = .ok (.i2l, 1) := by decide +kernel
theorem dL_law_400 : decode code 400 = .ok (.bipush 32, 2) := by decide +kernel
theorem dL_law_402 : decode code 402 = .ok (.lshl, 1) := by decide +kernel
theorem dL_law_403 : decode code 403 = .ok (.aload_n 0, 1) := by decide +kernel
theorem dL_law_404 : decode code 404 = .ok (.iload 4, 2) := by decide +kernel
theorem dL_law_406 : decode code 406 = .ok (.iconst 5, 1) := by decide +kernel
theorem dL_law_407 : decode code 407 = .ok (.iadd, 1) := by decide +kernel
theorem dL_law_408 : decode code 408 = .ok (.iaload, 1) := by decide +kernel
theorem dL_law_409 : decode code 409 = .ok (.i2l, 1) := by decide +kernel
theorem dL_law_410 : decode code 410 = .ok (.ldc2_w 75, 3) := by decide +kernel
theorem dL_law_413 : decode code 413 = .ok (.land, 1) := by decide +kernel
theorem dL_law_414 : decode code 414 = .ok (.lor, 1) := by decide +kernel
theorem dL_law_415 : decode code 415 = .ok (.aload_n 0, 1) := by decide +kernel
theorem dL_law_416 : decode code 416 = .ok (.iload 4, 2) := by decide +kernel
theorem dL_law_418 : decode code 418 = .ok (.bipush 6, 2) := by decide +kernel
theorem dL_law_420 : decode code 420 = .ok (.iadd, 1) := by decide +kernel
theorem dL_law_421 : decode code 421 = .ok (.iaload, 1) := by decide +kernel
theorem dL_law_422 : decode code 422 = .ok (.invokevirtual 88, 3) := by decide +kernel
theorem dL_law_425 : decode code 425 = .ok (.istore 6, 2) := by decide +kernel
theorem dL_law_427 : decode code 427 = .ok (.aload_n 2, 1) := by decide +kernel
theorem dL_law_428 : decode code 428 = .ok (.invokevirtual 81, 3) := by decide +kernel
theorem dL_law_431 : decode code 431 = .ok (.iload 5, 2) := by decide +kernel
theorem dL_law_433 : decode code 433 = .ok (.if_icmp .eq (5), 3) := by decide +kernel
theorem dL_law_438 : decode code 438 = .ok (.iload 5, 2) := by decide +kernel
theorem dL_law_440 : decode code 440 = .ok (.ifCond .ne (22), 3) := by decide +kernel
theorem dL_law_462 : decode code 462 = .ok (.goto (1243), 3) := by decide +kernel
theorem dL_law_465 : decode code 465 = .ok (.aload_n 1, 1) := by decide +kernel
theorem dL_law_466 : decode code 466 = .ok (.aload_n 0, 1) := by decide +kernel
theorem dL_law_467 : decode code 467 = .ok (.iload 4, 2) := by decide +kernel
theorem dL_law_469 : decode code 469 = .ok (.iconst 1, 1) := by decide +kernel
theorem dL_law_470 : decode code 470 = .ok (.iadd, 1) := by decide +kernel
theorem dL_law_471 : decode code 471 = .ok (.iaload, 1) := by decide +kernel
theorem dL_law_472 : decode code 472 = .ok (.aload_n 0, 1) := by decide +kernel
theorem dL_law_473 : decode code 473 = .ok (.iload 4, 2) := by decide +kernel
theorem dL_law_475 : decode code 475 = .ok (.iconst 2, 1) := by decide +kernel
theorem dL_law_476 : decode code 476 = .ok (.iadd, 1) := by decide +kernel
theorem dL_law_477 : decode code 477 = .ok (.iaload, 1) := by decide +kernel
theorem dL_law_478 : decode code 478 = .ok (.ifCond .eq (7), 3) := by decide +kernel
theorem dL_law_481 : decode code 481 = .ok (.iconst 1, 1) := by decide +kernel
theorem dL_law_482 : decode code 482 = .ok (.goto (4), 3) := by decide +kernel
theorem dL_law_485 : decode code 485 = .ok (.iconst 0, 1) := by decide +kernel
theorem dL_law_486 : decode code 486 = .ok (.aload_n 3, 1) := by decide +kernel
theorem dL_law_487 : decode code 487 = .ok (.invokestatic 89, 3) := by decide +kernel
theorem dL_law_490 : decode code 490 = .ok (.istore 5, 2) := by decide +kernel
theorem dL_law_492 : decode code 492 = .ok (.aload_n 2, 1) := by decide +kernel
theorem dL_law_493 : decode code 493 = .ok (.aload_n 0, 1) := by decide +kernel
theorem dL_law_494 : decode code 494 = .ok (.iload 4, 2) := by decide +kernel
theorem dL_law_496 : decode code 496 = .ok (.iconst 1, 1) := by decide +kernel
theorem dL_law_497 : decode code 497 = .ok (.iadd, 1) := by decide +kernel
theorem dL_law_498 : decode code 498 = .ok (.iaload, 1) := by decide +kernel
theorem dL_law_499 : decode code 499 = .ok (.aload_n 0, 1) := by decide +kernel
theorem dL_law_500 : decode code 500 = .ok (.iload 4, 2) := by decide +kernel
theorem dL_law_502 : decode code 502 = .ok (.iconst 2, 1) := by decide +kernel
theorem dL_law_503 : decode code 503 = .ok (.iadd, 1) := by decide +kernel
theorem dL_law_504 : decode code 504 = .ok (.iaload, 1) := by decide +kernel
theorem dL_law_505 : decode code 505 = .ok (.ifCond .eq (7), 3) := by decide +kernel
theorem dL_law_508 : decode code 508 = .ok (.iconst 1, 1) := by decide +kernel
theorem dL_law_509 : decode code 509 = .ok (.goto (4), 3) := by decide +kernel
theorem dL_law_512 : decode code 512 = .ok (.iconst 0, 1) := by decide +kernel
theorem dL_law_513 : decode code 513 = .ok (.invokevirtual 92, 3) := by decide +kernel
theorem dL_law_516 : decode code 516 = .ok (.istore 6, 2) := by decide +kernel
theorem dL_law_518 : decode code 518 = .ok (.aload_n 2, 1) := by decide +kernel
theorem dL_law_519 : decode code 519 = .ok (.invokevirtual 81, 3) := by decide +kernel
theorem dL_law_522 : decode code 522 = .ok (.iload 5, 2) := by decide +kernel
theorem dL_law_524 : decode code 524 = .ok (.if_icmp .eq (5), 3) := by decide +kernel
theorem dL_law_529 : decode code 529 = .ok (.iload 5, 2) := by decide +kernel
theorem dL_law_531 : decode code 531 = .ok (.ifCond .ne (22), 3) := by decide +kernel
theorem dL_law_553 : decode code 553 = .ok (.goto (1152), 3) := by decide +kernel
theorem dL_law_556 : decode code 556 = .ok (.aload_n 1, 1) := by decide +kernel
theorem dL_law_557 : decode code 557 = .ok (.invokevirtual 93, 3) := by decide +kernel
theorem dL_law_560 : decode code 560 = .ok (.aload_n 2, 1) := by decide +kernel
theorem dL_law_561 : decode code 561 = .ok (.invokevirtual 96, 3) := by decide +kernel
theorem dL_law_564 : decode code 564 = .ok (.if_icmp .eq (1141), 3) := by decide +kernel
theorem dL_law_569 : decode code 569 = .ok (.aload_n 1, 1) := by decide +kernel
theorem dL_law_570 : decode code 570 = .ok (.aload_n 0, 1) := by decide +kernel
theorem dL_law_571 : decode code 571 = .ok (.iload 4, 2) := by decide +kernel
