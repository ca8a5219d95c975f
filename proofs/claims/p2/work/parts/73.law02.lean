theorem dL_law_369 : decode code 369 = .ok (.iadd, 1) := by decide +kernel
theorem dL_law_370 : decode code 370 = .ok (.iaload, 1) := by decide +kernel
theorem dL_law_371 : decode code 371 = .ok (.aload_n 0, 1) := by decide +kernel
theorem dL_law_372 : decode code 372 = .ok (.iload 4, 2) := by decide +kernel
theorem dL_law_374 : decode code 374 = .ok (.iconst 2, 1) := by decide +kernel
theorem dL_law_375 : decode code 375 = .ok (.iadd, 1) := by decide +kernel
theorem dL_law_376 : decode code 376 = .ok (.iaload, 1) := by decide +kernel
theorem dL_law_377 : decode code 377 = .ok (.i2l, 1) := by decide +kernel
theorem dL_law_378 : decode code 378 = .ok (.bipush 32, 2) := by decide +kernel
theorem dL_law_380 : decode code 380 = .ok (.lshl, 1) := by decide +kernel
theorem dL_law_381 : decode code 381 = .ok (.aload_n 0, 1) := by decide +kernel
theorem dL_law_382 : decode code 382 = .ok (.iload 4, 2) := by decide +kernel
theorem dL_law_384 : decode code 384 = .ok (.iconst 3, 1) := by decide +kernel
theorem dL_law_385 : decode code 385 = .ok (.iadd, 1) := by decide +kernel
theorem dL_law_386 : decode code 386 = .ok (.iaload, 1) := by decide +kernel
theorem dL_law_387 : decode code 387 = .ok (.i2l, 1) := by decide +kernel
theorem dL_law_388 : decode code 388 = .ok (.ldc2_w 75, 3) := by decide +kernel
theorem dL_law_391 : decode code 391 = .ok (.land, 1) := by decide +kernel
theorem dL_law_392 : decode code 392 = .ok (.lor, 1) := by decide +kernel
theorem dL_law_393 : decode code 393 = .ok (.aload_n 0, 1) := by decide +kernel
theorem dL_law_394 : decode code 394 = .ok (.iload 4, 2) := by decide +kernel
theorem dL_law_396 : decode code 396 = .ok (.iconst 4, 1) := by decide +kernel
theorem dL_law_397 : decode code 397 = .ok (.iadd, 1) := by decide +kernel
theorem dL_law_398 : decode code 398 = .ok (.iaload, 1) := by decide +kernel
theorem dL_law_399 : decode code 399 = .ok (.i2l, 1) := by decide +kernel
theorem dL_law_400 : decode code 400 = .ok (.bipush 32, 2) := by decide +kernel
theorem dL_law_402 : decode code 402 = .ok (.lshl, 1) := by decide +kernel
theorem dL_law_403 : decode code 403 = .ok (.aload_n 0, 1) := by decide +kernel
theorem dL_law_404 : decode code 404 = .ok (.iload 4, 2) := by decide +kernel
theorem dL_law_406 : decode code 406 = .ok (.iconst 5, 1) := by decide +kernel
theorem dL_law_407 : decode code 407 = .ok (.iadd, 1) := by decide +kernel
theorem dL_law_408 : decode code 408 = .ok (.iaload, 1) := by decide +kernel
theorem dL_law_409 : decode code 409 = .ok (.i2l, 1) := by decide +kernel
theorem dL_law_410 : decode code 410 = .ok (.ldc2_w 75, 3) := by decide +kernel
theorem dL_law_413 : decode code 413 = .ok (.land, 1) := by decide +kernel
theorem dL_law_414 : decode code 414 = .ok (.lor, 1) := by decide +kernel
theorem dL_law_415 : decode code 415 = .ok (.aload_n 0, 1) := by decide +kernel
theorem dL_law_416 : decode code 416 = .ok (.iload 4, 2) := by decide +kernel
theorem dL_law_418 : decode code 418 = .ok (.bipush 6, 2) := by decide +kernel
theorem dL_law_420 : decode code 420 = .ok (.iadd, 1) := by decide +kernel
theorem dL_law_421 : decode code 421 = .ok (.iaload, 1) := by decide +kernel
theorem dL_law_422 : decode code 422 = .ok (.invokevirtual 88, 3) := by decide +kernel
theorem dL_law_425 : decode code 425 = .ok (.istore 6, 2) := by decide +kernel
theorem dL_law_427 : decode code 427 = .ok (.goto (927), 3) := by decide +kernel
theorem dL_law_430 : decode code 430 = .ok (.aload_n 1, 1) := by decide +kernel
theorem dL_law_431 : decode code 431 = .ok (.aload_n 0, 1) := by decide +kernel
theorem dL_law_432 : decode code 432 = .ok (.iload 4, 2) := by decide +kernel
theorem dL_law_434 : decode code 434 = .ok (.iconst 1, 1) := by decide +kernel
theorem dL_law_435 : decode code 435 = .ok (.iadd, 1) := by decide +kernel
theorem dL_law_436 : decode code 436 = .ok (.iaload, 1) := by decide +kernel
theorem dL_law_437 : decode code 437 = .ok (.aload_n 0, 1) := by decide +kernel
theorem dL_law_438 : decode code 438 = .ok (.iload 4, 2) := by decide +kernel
theorem dL_law_440 : decode code 440 = .ok (.iconst 2, 1) := by decide +kernel
theorem dL_law_441 : decode code 441 = .ok (.iadd, 1) := by decide +kernel
theorem dL_law_442 : decode code 442 = .ok (.iaload, 1) := by decide +kernel
theorem dL_law_443 : decode code 443 = .ok (.ifCond .eq (7), 3) := by decide +kernel
theorem dL_law_446 : decode code 446 = .ok (.iconst 1, 1) := by decide +kernel
theorem dL_law_447 : decode code 447 = .ok (.goto (4), 3) := by decide +kernel
theorem dL_law_450 : decode code 450 = .ok (.iconst 0, 1) := by decide +kernel
theorem dL_law_451 : decode code 451 = .ok (.aload_n 3, 1) := by decide +kernel
theorem dL_law_452 : decode code 452 = .ok (.invokestatic 89, 3) := by decide +kernel
theorem dL_law_455 : decode code 455 = .ok (.istore 5, 2) := by decide +kernel
theorem dL_law_457 : decode code 457 = .ok (.aload_n 2, 1) := by decide +kernel
theorem dL_law_458 : decode code 458 = .ok (.aload_n 0, 1) := by decide +kernel
theorem dL_law_459 : decode code 459 = .ok (.iload 4, 2) := by decide +kernel
theorem dL_law_461 : decode code 461 = .ok (.iconst 1, 1) := by decide +kernel
theorem dL_law_462 : decode code 462 = .ok (.iadd, 1) := by decide +kernel
theorem dL_law_463 : decode code 463 = .ok (.iaload, 1) := by decide +kernel
theorem dL_law_464 : decode code 464 = .ok (.aload_n 0, 1) := by decide +kernel
theorem dL_law_465 : decode code 465 = .ok (.iload 4, 2) := by decide +kernel
theorem dL_law_467 : decode code 467 = .ok (.iconst 2, 1) := by decide +kernel
theorem dL_law_468 : decode code 468 = .ok (.iadd, 1) := by decide +kernel
theorem dL_law_469 : decode code 469 = .ok (.iaload, 1) := by decide +kernel
theorem dL_law_470 : decode code 470 = .ok (.ifCond .eq (7), 3) := by decide +kernel
theorem dL_law_473 : decode code 473 = .ok (.iconst 1, 1) := by decide +kernel
theorem dL_law_474 : decode code 474 = .ok (.goto (4), 3) := by decide +kernel
theorem dL_law_477 : decode code 477 = .ok (.iconst 0, 1) := by decide +kernel
theorem dL_law_478 : decode code 478 = .ok (.invokevirtual 92, 3) := by decide +kernel
theorem dL_law_481 : decode code 481 = .ok (.istore 6, 2) := by decide +kernel
theorem dL_law_483 : decode code 483 = .ok (.goto (871), 3) := by decide +kernel
theorem dL_law_486 : decode code 486 = .ok (.aload_n 1, 1) := by decide +kernel
theorem dL_law_487 : decode code 487 = .ok (.invokevirtual 93, 3) := by decide +kernel
theorem dL_law_490 : decode code 490 = .ok (.pop, 1) := by decide +kernel
theorem dL_law_491 : decode code 491 = .ok (.aload_n 2, 1) := by decide +kernel
theorem dL_law_492 : decode code 492 = .ok (.invokevirtual 96, 3) := by decide +kernel
theorem dL_law_495 : decode code 495 = .ok (.pop, 1) := by decide +kernel
theorem dL_law_496 : decode code 496 = .ok (.goto (858), 3) := by decide +kernel
theorem dL_law_499 : decode code 499 = .ok (.aload_n 1, 1) := by decide +kernel
theorem dL_law_500 : decode code 500 = .ok (.aload_n 0, 1) := by decide +kernel
theorem dL_law_501 : decode code 501 = .ok (.iload 4, 2) := by decide +kernel
theorem dL_law_503 : decode code 503 = .ok (.iconst 1, 1) := by decide +kernel
theorem dL_law_504 : decode code 504 = .ok (.iadd, 1) := by decide +kernel
theorem dL_law_505 : decode code 505 = .ok (.iaload, 1) := by decide +kernel
theorem dL_law_506 : decode code 506 = .ok (.aload_n 0, 1) := by decide +kernel
theorem dL_law_507 : decode code 507 = .ok (.iload 4, 2) := by decide +kernel
theorem dL_law_509 : decode code 509 = .ok (.iconst 2, 1) := by decide +kernel
theorem dL_law_510 : decode code 510 = .ok (.iadd, 1) := by decide +kernel
theorem dL_law_511 : decode code 511 = .ok (.iaload, 1) := by decide +kernel
theorem dL_law_512 : decode code 512 = .ok (.aload_n 0, 1) := by decide +kernel
theorem dL_law_513 : decode code 513 = .ok (.iload 4, 2) := by decide +kernel
