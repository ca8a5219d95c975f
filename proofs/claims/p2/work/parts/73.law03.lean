theorem dL_law_515 : decode code 515 = .ok (.iconst 3, 1) := by decide +kernel
theorem dL_law_516 : decode code 516 = .ok (.iadd, 1) := by decide +kernel
theorem dL_law_517 : decode code 517 = .ok (.iaload, 1) := by decide +kernel
theorem dL_law_518 : decode code 518 = .ok (.i2l, 1) := by decide +kernel
theorem dL_law_519 : decode code 519 = .ok (.bipush 32, 2) := by decide +kernel
theorem dL_law_521 : decode code 521 = .ok (.lshl, 1) := by decide +kernel
theorem dL_law_522 : decode code 522 = .ok (.aload_n 0, 1) := by decide +kernel
theorem dL_law_523 : decode code 523 = .ok (.iload 4, 2) := by decide +kernel
theorem dL_law_525 : decode code 525 = .ok (.iconst 4, 1) := by decide +kernel
theorem dL_law_526 : decode code 526 = .ok (.iadd, 1) := by decide +kernel
theorem dL_law_527 : decode code 527 = .ok (.iaload, 1) := by decide +kernel
theorem dL_law_528 : decode code 528 = .ok (.i2l, 1) := by decide +kernel
theorem dL_law_529 : decode code 529 = .ok (.ldc2_w 75, 3) := by decide +kernel
theorem dL_law_532 : decode code 532 = .ok (.land, 1) := by decide +kernel
theorem dL_law_533 : decode code 533 = .ok (.lor, 1) := by decide +kernel
theorem dL_law_534 : decode code 534 = .ok (.aload_n 0, 1) := by decide +kernel
theorem dL_law_535 : decode code 535 = .ok (.iload 4, 2) := by decide +kernel
theorem dL_law_537 : decode code 537 = .ok (.iconst 5, 1) := by decide +kernel
theorem dL_law_538 : decode code 538 = .ok (.iadd, 1) := by decide +kernel
theorem dL_law_539 : decode code 539 = .ok (.iaload, 1) := by decide +kernel
theorem dL_law_540 : decode code 540 = .ok (.i2l, 1) := by decide +kernel
theorem dL_law_541 : decode code 541 = .ok (.bipush 32, 2) := by decide +kernel
theorem dL_law_543 : decode code 543 = .ok (.lshl, 1) := by decide +kernel
theorem dL_law_544 : decode code 544 = .ok (.aload_n 0, 1) := by decide +kernel
theorem dL_law_545 : decode code 545 = .ok (.iload 4, 2) := by decide +kernel
theorem dL_law_547 : decode code 547 = .ok (.bipush 6, 2) := by decide +kernel
theorem dL_law_549 : decode code 549 = .ok (.iadd, 1) := by decide +kernel
theorem dL_law_550 : decode code 550 = .ok (.iaload, 1) := by decide +kernel
theorem dL_law_551 : decode code 551 = .ok (.i2l, 1) := by decide +kernel
theorem dL_law_552 : decode code 552 = .ok (.ldc2_w 75, 3) := by decide +kernel
theorem dL_law_555 : decode code 555 = .ok (.land, 1) := by decide +kernel
theorem dL_law_556 : decode code 556 = .ok (.lor, 1) := by decide +kernel
theorem dL_law_557 : decode code 557 = .ok (.aload_n 3, 1) := by decide +kernel
theorem dL_law_558 : decode code 558 = .ok (.invokestatic 97, 3) := by decide +kernel
theorem dL_law_561 : decode code 561 = .ok (.istore 5, 2) := by decide +kernel
theorem dL_law_563 : decode code 563 = .ok (.aload_n 2, 1) := by decide +kernel
theorem dL_law_564 : decode code 564 = .ok (.aload_n 0, 1) := by decide +kernel
theorem dL_law_565 : decode code 565 = .ok (.iload 4, 2) := by decide +kernel
theorem dL_law_567 : decode code 567 = .ok (.iconst 1, 1) := by decide +kernel
theorem dL_law_568 : decode code 568 = .ok (.iadd, 1) := by decide +kernel
theorem dL_law_569 : decode code 569 = .ok (.iaload, 1) := by decide +kernel
theorem dL_law_570 : decode code 570 = .ok (.aload_n 0, 1) := by decide +kernel
theorem dL_law_571 : decode code 571 = .ok (.iload 4, 2) := by decide +kernel
theorem dL_law_573 : decode code 573 = .ok (.iconst 2, 1) := by decide +kernel
theorem dL_law_574 : decode code 574 = .ok (.iadd, 1) := by decide +kernel
theorem dL_law_575 : decode code 575 = .ok (.iaload, 1) := by decide +kernel
theorem dL_law_576 : decode code 576 = .ok (.aload_n 0, 1) := by decide +kernel
theorem dL_law_577 : decode code 577 = .ok (.iload 4, 2) := by decide +kernel
theorem dL_law_579 : decode code 579 = .ok (.iconst 3, 1) := by decide +kernel
theorem dL_law_580 : decode code 580 = .ok (.iadd, 1) := by decide +kernel
theorem dL_law_581 : decode code 581 = .ok (.iaload, 1) := by decide +kernel
theorem dL_law_582 : decode code 582 = .ok (.i2l, 1) := by decide +kernel
theorem dL_law_583 : decode code 583 = .ok (.bipush 32, 2) := by decide +kernel
theorem dL_law_585 : decode code 585 = .ok (.lshl, 1) := by decide +kernel
theorem dL_law_586 : decode code 586 = .ok (.aload_n 0, 1) := by decide +kernel
theorem dL_law_587 : decode code 587 = .ok (.iload 4, 2) := by decide +kernel
theorem dL_law_589 : decode code 589 = .ok (.iconst 4, 1) := by decide +kernel
theorem dL_law_590 : decode code 590 = .ok (.iadd, 1) := by decide +kernel
theorem dL_law_591 : decode code 591 = .ok (.iaload, 1) := by decide +kernel
theorem dL_law_592 : decode code 592 = .ok (.i2l, 1) := by decide +kernel
theorem dL_law_593 : decode code 593 = .ok (.ldc2_w 75, 3) := by decide +kernel
theorem dL_law_596 : decode code 596 = .ok (.land, 1) := by decide +kernel
theorem dL_law_597 : decode code 597 = .ok (.lor, 1) := by decide +kernel
theorem dL_law_598 : decode code 598 = .ok (.aload_n 0, 1) := by decide +kernel
theorem dL_law_599 : decode code 599 = .ok (.iload 4, 2) := by decide +kernel
theorem dL_law_601 : decode code 601 = .ok (.iconst 5, 1) := by decide +kernel
theorem dL_law_602 : decode code 602 = .ok (.iadd, 1) := by decide +kernel
theorem dL_law_603 : decode code 603 = .ok (.iaload, 1) := by decide +kernel
theorem dL_law_604 : decode code 604 = .ok (.i2l, 1) := by decide +kernel
theorem dL_law_605 : decode code 605 = .ok (.bipush 32, 2) := by decide +kernel
theorem dL_law_607 : decode code 607 = .ok (.lshl, 1) := by decide +kernel
theorem dL_law_608 : decode code 608 = .ok (.aload_n 0, 1) := by decide +kernel
theorem dL_law_609 : decode code 609 = .ok (.iload 4, 2) := by decide +kernel
theorem dL_law_611 : decode code 611 = .ok (.bipush 6, 2) := by decide +kernel
theorem dL_law_613 : decode code 613 = .ok (.iadd, 1) := by decide +kernel
theorem dL_law_614 : decode code 614 = .ok (.iaload, 1) := by decide +kernel
theorem dL_law_615 : decode code 615 = .ok (.i2l, 1) := by decide +kernel
theorem dL_law_616 : decode code 616 = .ok (.ldc2_w 75, 3) := by decide +kernel
theorem dL_law_619 : decode code 619 = .ok (.land, 1) := by decide +kernel
theorem dL_law_620 : decode code 620 = .ok (.lor, 1) := by decide +kernel
theorem dL_law_621 : decode code 621 = .ok (.invokevirtual 100, 3) := by decide +kernel
theorem dL_law_624 : decode code 624 = .ok (.istore 6, 2) := by decide +kernel
theorem dL_law_626 : decode code 626 = .ok (.goto (728), 3) := by decide +kernel
theorem dL_law_629 : decode code 629 = .ok (.aload_n 1, 1) := by decide +kernel
theorem dL_law_630 : decode code 630 = .ok (.aload_n 0, 1) := by decide +kernel
theorem dL_law_631 : decode code 631 = .ok (.iload 4, 2) := by decide +kernel
theorem dL_law_633 : decode code 633 = .ok (.iconst 1, 1) := by decide +kernel
theorem dL_law_634 : decode code 634 = .ok (.iadd, 1) := by decide +kernel
theorem dL_law_635 : decode code 635 = .ok (.iaload, 1) := by decide +kernel
theorem dL_law_636 : decode code 636 = .ok (.aload_n 0, 1) := by decide +kernel
theorem dL_law_637 : decode code 637 = .ok (.iload 4, 2) := by decide +kernel
theorem dL_law_639 : decode code 639 = .ok (.iconst 2, 1) := by decide +kernel
theorem dL_law_640 : decode code 640 = .ok (.iadd, 1) := by decide +kernel
theorem dL_law_641 : decode code 641 = .ok (.iaload, 1) := by decide +kernel
theorem dL_law_642 : decode code 642 = .ok (.i2l, 1) := by decide +kernel
theorem dL_law_643 : decode code 643 = .ok (.bipush 32, 2) := by decide +kernel
theorem dL_law_645 : decode code 645 = .ok (.lshl, 1) := by decide +kernel
theorem dL_law_646 : decode code 646 = .ok (.aload_n 0, 1) := by decide +kernel
theorem dL_law_647 : decode code 647 = .ok (.iload 4, 2) := by decide +kernel
theorem dL_law_649 : decode code 649 = .ok (.iconst 3, 1) := by decide +kernel
