theorem dL_law_504 : decode code 504 = .ok (.land, 1) := by decide +kernel
theorem dL_law_505 : decode code 505 = .ok (.lor, 1) := by decide +kernel
theorem dL_law_506 : decode code 506 = .ok (.aload_n 0, 1) := by decide +kernel
theorem dL_law_507 : decode code 507 = .ok (.iload 4, 2) := by decide +kernel
theorem dL_law_509 : decode code 509 = .ok (.iconst 5, 1) := by decide +kernel
theorem dL_law_510 : decode code 510 = .ok (.iadd, 1) := by decide +kernel
theorem dL_law_511 : decode code 511 = .ok (.iaload, 1) := by decide +kernel
theorem dL_law_512 : decode code 512 = .ok (.i2l, 1) := by decide +kernel
theorem dL_law_513 : decode code 513 = .ok (.bipush 32, 2) := by decide +kernel
theorem dL_law_515 : decode code 515 = .ok (.lshl, 1) := by decide +kernel
theorem dL_law_516 : decode code 516 = .ok (.aload_n 0, 1) := by decide +kernel
theorem dL_law_517 : decode code 517 = .ok (.iload 4, 2) := by decide +kernel
theorem dL_law_519 : decode code 519 = .ok (.bipush 6, 2) := by decide +kernel
theorem dL_law_521 : decode code 521 = .ok (.iadd, 1) := by decide +kernel
theorem dL_law_522 : decode code 522 = .ok (.iaload, 1) := by decide +kernel
theorem dL_law_523 : decode code 523 = .ok (.i2l, 1) := by decide +kernel
theorem dL_law_524 : decode code 524 = .ok (.ldc2_w 75, 3) := by decide +kernel
theorem dL_law_527 : decode code 527 = .ok (.land, 1) := by decide +kernel
theorem dL_law_528 : decode code 528 = .ok (.lor, 1) := by decide +kernel
theorem dL_law_529 : decode code 529 = .ok (.aload_n 3, 1) := by decide +kernel
theorem dL_law_530 : decode code 530 = .ok (.invokestatic 94, 3) := by decide +kernel
theorem dL_law_533 : decode code 533 = .ok (.istore 5, 2) := by decide +kernel
theorem dL_law_535 : decode code 535 = .ok (.aload_n 2, 1) := by decide +kernel
theorem dL_law_536 : decode code 536 = .ok (.aload_n 0, 1) := by decide +kernel
theorem dL_law_537 : decode code 537 = .ok (.iload 4, 2) := by decide +kernel
theorem dL_law_539 : decode code 539 = .ok (.iconst 1, 1) := by decide +kernel
theorem dL_law_540 : decode code 540 = .ok (.iadd, 1) := by decide +kernel
theorem dL_law_541 : decode code 541 = .ok (.iaload, 1) := by decide +kernel
theorem dL_law_542 : decode code 542 = .ok (.aload_n 0, 1) := by decide +kernel
theorem dL_law_543 : decode code 543 = .ok (.iload 4, 2) := by decide +kernel
theorem dL_law_545 : decode code 545 = .ok (.iconst 2, 1) := by decide +kernel
theorem dL_law_546 : decode code 546 = .ok (.iadd, 1) := by decide +kernel
theorem dL_law_547 : decode code 547 = .ok (.iaload, 1) := by decide +kernel
theorem dL_law_548 : decode code 548 = .ok (.aload_n 0, 1) := by decide +kernel
theorem dL_law_549 : decode code 549 = .ok (.iload 4, 2) := by decide +kernel
theorem dL_law_551 : decode code 551 = .ok (.iconst 3, 1) := by decide +kernel
theorem dL_law_552 : decode code 552 = .ok (.iadd, 1) := by decide +kernel
theorem dL_law_553 : decode code 553 = .ok (.iaload, 1) := by decide +kernel
theorem dL_law_554 : decode code 554 = .ok (.i2l, 1) := by decide +kernel
theorem dL_law_555 : decode code 555 = .ok (.bipush 32, 2) := by decide +kernel
theorem dL_law_557 : decode code 557 = .ok (.lshl, 1) := by decide +kernel
theorem dL_law_558 : decode code 558 = .ok (.aload_n 0, 1) := by decide +kernel
theorem dL_law_559 : decode code 559 = .ok (.iload 4, 2) := by decide +kernel
theorem dL_law_561 : decode code 561 = .ok (.iconst 4, 1) := by decide +kernel
theorem dL_law_562 : decode code 562 = .ok (.iadd, 1) := by decide +kernel
theorem dL_law_563 : decode code 563 = .ok (.iaload, 1) := by decide +kernel
theorem dL_law_564 : decode code 564 = .ok (.i2l, 1) := by decide +kernel
theorem dL_law_565 : decode code 565 = .ok (.ldc2_w 75, 3) := by decide +kernel
theorem dL_law_568 : decode code 568 = .ok (.land, 1) := by decide +kernel
theorem dL_law_569 : decode code 569 = .ok (.lor, 1) := by decide +kernel
theorem dL_law_570 : decode code 570 = .ok (.aload_n 0, 1) := by decide +kernel
theorem dL_law_571 : decode code 571 = .ok (.iload 4, 2) := by decide +kernel
theorem dL_law_573 : decode code 573 = .ok (.iconst 5, 1) := by decide +kernel
theorem dL_law_574 : decode code 574 = .ok (.iadd, 1) := by decide +kernel
theorem dL_law_575 : decode code 575 = .ok (.iaload, 1) := by decide +kernel
theorem dL_law_576 : decode code 576 = .ok (.i2l, 1) := by decide +kernel
theorem dL_law_577 : decode code 577 = .ok (.bipush 32, 2) := by decide +kernel
theorem dL_law_579 : decode code 579 = .ok (.lshl, 1) := by decide +kernel
theorem dL_law_580 : decode code 580 = .ok (.aload_n 0, 1) := by decide +kernel
theorem dL_law_581 : decode code 581 = .ok (.iload 4, 2) := by decide +kernel
theorem dL_law_583 : decode code 583 = .ok (.bipush 6, 2) := by decide +kernel
theorem dL_law_585 : decode code 585 = .ok (.iadd, 1) := by decide +kernel
theorem dL_law_586 : decode code 586 = .ok (.iaload, 1) := by decide +kernel
theorem dL_law_587 : decode code 587 = .ok (.i2l, 1) := by decide +kernel
theorem dL_law_588 : decode code 588 = .ok (.ldc2_w 75, 3) := by decide +kernel
theorem dL_law_591 : decode code 591 = .ok (.land, 1) := by decide +kernel
theorem dL_law_592 : decode code 592 = .ok (.lor, 1) := by decide +kernel
theorem dL_law_593 : decode code 593 = .ok (.invokevirtual 97, 3) := by decide +kernel
theorem dL_law_596 : decode code 596 = .ok (.istore 6, 2) := by decide +kernel
theorem dL_law_598 : decode code 598 = .ok (.goto (728), 3) := by decide +kernel
theorem dL_law_601 : decode code 601 = .ok (.aload_n 1, 1) := by decide +kernel
theorem dL_law_602 : decode code 602 = .ok (.aload_n 0, 1) := by decide +kernel
theorem dL_law_603 : decode code 603 = .ok (.iload 4, 2) := by decide +kernel
theorem dL_law_605 : decode code 605 = .ok (.iconst 1, 1) := by decide +kernel
theorem dL_law_606 : decode code 606 = .ok (.iadd, 1) := by decide +kernel
theorem dL_law_607 : decode code 607 = .ok (.iaload, 1) := by decide +kernel
theorem dL_law_608 : decode code 608 = .ok (.aload_n 0, 1) := by decide +kernel
theorem dL_law_609 : decode code 609 = .ok (.iload 4, 2) := by decide +kernel
theorem dL_law_611 : decode code 611 = .ok (.iconst 2, 1) := by decide +kernel
theorem dL_law_612 : decode code 612 = .ok (.iadd, 1) := by decide +kernel
theorem dL_law_613 : decode code 613 = .ok (.iaload, 1) := by decide +kernel
theorem dL_law_614 : decode code 614 = .ok (.i2l, 1) := by decide +kernel
theorem dL_law_615 : decode code 615 = .ok (.bipush 32, 2) := by decide +kernel
theorem dL_law_617 : decode code 617 = .ok (.lshl, 1) := by decide +kernel
theorem dL_law_618 : decode code 618 = .ok (.aload_n 0, 1) := by decide +kernel
theorem dL_law_619 : decode code 619 = .ok (.iload 4, 2) := by decide +kernel
theorem dL_law_621 : decode code 621 = .ok (.iconst 3, 1) := by decide +kernel
theorem dL_law_622 : decode code 622 = .ok (.iadd, 1) := by decide +kernel
theorem dL_law_623 : decode code 623 = .ok (.iaload, 1) := by decide +kernel
theorem dL_law_624 : decode code 624 = .ok (.i2l, 1) := by decide +kernel
theorem dL_law_625 : decode code 625 = .ok (.ldc2_w 75, 3) := by decide +kernel
theorem dL_law_628 : decode code 628 = .ok (.land, 1) := by decide +kernel
theorem dL_law_629 : decode code 629 = .ok (.lor, 1) := by decide +kernel
theorem dL_law_630 : decode code 630 = .ok (.aload_n 0, 1) := by decide +kernel
theorem dL_law_631 : decode code 631 = .ok (.iload 4, 2) := by decide +kernel
theorem dL_law_633 : decode code 633 = .ok (.iconst 4, 1) := by decide +kernel
theorem dL_law_634 : decode code 634 = .ok (.iadd, 1) := by decide +kernel
theorem dL_law_635 : decode code 635 = .ok (.iaload, 1) := by decide +kernel
theorem dL_law_636 : decode code 636 = .ok (.i2l, 1) := by decide +kernel
theorem dL_law_637 : decode code 637 = .ok (.bipush 32, 2) := by decide +kernel
