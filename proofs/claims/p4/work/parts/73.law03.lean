theorem dL_law_518 : decode code 518 = .ok (.iaload, 1) := by decide +kernel
theorem dL_law_519 : decode code 519 = .ok (.aload_n 0, 1) := by decide +kernel
theorem dL_law_520 : decode code 520 = .ok (.iload 4, 2) := by decide +kernel
theorem dL_law_522 : decode code 522 = .ok (.iconst 3, 1) := by decide +kernel
theorem dL_law_523 : decode code 523 = .ok (.iadd, 1) := by decide +kernel
theorem dL_law_524 : decode code 524 = .ok (.iaload, 1) := by decide +kernel
theorem dL_law_525 : decode code 525 = .ok (.i2l, 1) := by decide +kernel
theorem dL_law_526 : decode code 526 = .ok (.bipush 32, 2) := by decide +kernel
theorem dL_law_528 : decode code 528 = .ok (.lshl, 1) := by decide +kernel
theorem dL_law_529 : decode code 529 = .ok (.aload_n 0, 1) := by decide +kernel
theorem dL_law_530 : decode code 530 = .ok (.iload 4, 2) := by decide +kernel
theorem dL_law_532 : decode code 532 = .ok (.iconst 4, 1) := by decide +kernel
theorem dL_law_533 : decode code 533 = .ok (.iadd, 1) := by decide +kernel
theorem dL_law_534 : decode code 534 = .ok (.iaload, 1) := by decide +kernel
theorem dL_law_535 : decode code 535 = .ok (.i2l, 1) := by decide +kernel
theorem dL_law_536 : decode code 536 = .ok (.ldc2_w 75, 3) := by decide +kernel
theorem dL_law_539 : decode code 539 = .ok (.land, 1) := by decide +kernel
theorem dL_law_540 : decode code 540 = .ok (.lor, 1) := by decide +kernel
theorem dL_law_541 : decode code 541 = .ok (.aload_n 0, 1) := by decide +kernel
theorem dL_law_542 : decode code 542 = .ok (.iload 4, 2) := by decide +kernel
theorem dL_law_544 : decode code 544 = .ok (.iconst 5, 1) := by decide +kernel
theorem dL_law_545 : decode code 545 = .ok (.iadd, 1) := by decide +kernel
theorem dL_law_546 : decode code 546 = .ok (.iaload, 1) := by decide +kernel
theorem dL_law_547 : decode code 547 = .ok (.i2l, 1) := by decide +kernel
theorem dL_law_548 : decode code 548 = .ok (.bipush 32, 2) := by decide +kernel
theorem dL_law_550 : decode code 550 = .ok (.lshl, 1) := by decide +kernel
theorem dL_law_551 : decode code 551 = .ok (.aload_n 0, 1) := by decide +kernel
theorem dL_law_552 : decode code 552 = .ok (.iload 4, 2) := by decide +kernel
theorem dL_law_554 : decode code 554 = .ok (.bipush 6, 2) := by decide +kernel
theorem dL_law_556 : decode code 556 = .ok (.iadd, 1) := by decide +kernel
theorem dL_law_557 : decode code 557 = .ok (.iaload, 1) := by decide +kernel
theorem dL_law_558 : decode code 558 = .ok (.i2l, 1) := by decide +kernel
theorem dL_law_559 : decode code 559 = .ok (.ldc2_w 75, 3) := by decide +kernel
theorem dL_law_562 : decode code 562 = .ok (.land, 1) := by decide +kernel
theorem dL_law_563 : decode code 563 = .ok (.lor, 1) := by decide +kernel
theorem dL_law_564 : decode code 564 = .ok (.aload_n 3, 1) := by decide +kernel
theorem dL_law_565 : decode code 565 = .ok (.invokestatic 97, 3) := by decide +kernel
theorem dL_law_568 : decode code 568 = .ok (.istore 5, 2) := by decide +kernel
theorem dL_law_570 : decode code 570 = .ok (.aload_n 2, 1) := by decide +kernel
theorem dL_law_571 : decode code 571 = .ok (.aload_n 0, 1) := by decide +kernel
theorem dL_law_572 : decode code 572 = .ok (.iload 4, 2) := by decide +kernel
theorem dL_law_574 : decode code 574 = .ok (.iconst 1, 1) := by decide +kernel
theorem dL_law_575 : decode code 575 = .ok (.iadd, 1) := by decide +kernel
theorem dL_law_576 : decode code 576 = .ok (.iaload, 1) := by decide +kernel
theorem dL_law_577 : decode code 577 = .ok (.aload_n 0, 1) := by decide +kernel
theorem dL_law_578 : decode code 578 = .ok (.iload 4, 2) := by decide +kernel
theorem dL_law_580 : decode code 580 = .ok (.iconst 2, 1) := by decide +kernel
theorem dL_law_581 : decode code 581 = .ok (.iadd, 1) := by decide +kernel
theorem dL_law_582 : decode code 582 = .ok (.iaload, 1) := by decide +kernel
theorem dL_law_583 : decode code 583 = .ok (.aload_n 0, 1) := by decide +kernel
theorem dL_law_584 : decode code 584 = .ok (.iload 4, 2) := by decide +kernel
theorem dL_law_586 : decode code 586 = .ok (.iconst 3, 1) := by decide +kernel
theorem dL_law_587 : decode code 587 = .ok (.iadd, 1) := by decide +kernel
theorem dL_law_588 : decode code 588 = .ok (.iaload, 1) := by decide +kernel
theorem dL_law_589 : decode code 589 = .ok (.i2l, 1) := by decide +kernel
theorem dL_law_590 : decode code 590 = .ok (.bipush 32, 2) := by decide +kernel
theorem dL_law_592 : decode code 592 = .ok (.lshl, 1) := by decide +kernel
theorem dL_law_593 : decode code 593 = .ok (.aload_n 0, 1) := by decide +kernel
theorem dL_law_594 : decode code 594 = .ok (.iload 4, 2) := by decide +kernel
theorem dL_law_596 : decode code 596 = .ok (.iconst 4, 1) := by decide +kernel
theorem dL_law_597 : decode code 597 = .ok (.iadd, 1) := by decide +kernel
theorem dL_law_598 : decode code 598 = .ok (.iaload, 1) := by decide +kernel
theorem dL_law_599 : decode code 599 = .ok (.i2l, 1) := by decide +kernel
theorem dL_law_600 : decode code 600 = .ok (.ldc2_w 75, 3) := by decide +kernel
theorem dL_law_603 : decode code 603 = .ok (.land, 1) := by decide +kernel
theorem dL_law_604 : decode code 604 = .ok (.lor, 1) := by decide +kernel
theorem dL_law_605 : decode code 605 = .ok (.aload_n 0, 1) := by decide +kernel
theorem dL_law_606 : decode code 606 = .ok (.iload 4, 2) := by decide +kernel
theorem dL_law_608 : decode code 608 = .ok (.iconst 5, 1) := by decide +kernel
theorem dL_law_609 : decode code 609 = .ok (.iadd, 1) := by decide +kernel
theorem dL_law_610 : decode code 610 = .ok (.iaload, 1) := by decide +kernel
theorem dL_law_611 : decode code 611 = .ok (.i2l, 1) := by decide +kernel
theorem dL_law_612 : decode code 612 = .ok (.bipush 32, 2) := by decide +kernel
theorem dL_law_614 : decode code 614 = .ok (.lshl, 1) := by decide +kernel
theorem dL_law_615 : decode code 615 = .ok (.aload_n 0, 1) := by decide +kernel
theorem dL_law_616 : decode code 616 = .ok (.iload 4, 2) := by decide +kernel
theorem dL_law_618 : decode code 618 = .ok (.bipush 6, 2) := by decide +kernel
theorem dL_law_620 : decode code 620 = .ok (.iadd, 1) := by decide +kernel
theorem dL_law_621 : decode code 621 = .ok (.iaload, 1) := by decide +kernel
theorem dL_law_622 : decode code 622 = .ok (.i2l, 1) := by decide +kernel
theorem dL_law_623 : decode code 623 = .ok (.ldc2_w 75, 3) := by decide +kernel
theorem dL_law_626 : decode code 626 = .ok (.land, 1) := by decide +kernel
theorem dL_law_627 : decode code 627 = .ok (.lor, 1) := by decide +kernel
theorem dL_law_628 : decode code 628 = .ok (.invokevirtual 100, 3) := by decide +kernel
theorem dL_law_631 : decode code 631 = .ok (.istore 6, 2) := by decide +kernel
theorem dL_law_633 : decode code 633 = .ok (.goto (728), 3) := by decide +kernel
theorem dL_law_636 : decode code 636 = .ok (.aload_n 1, 1) := by decide +kernel
theorem dL_law_637 : decode code 637 = .ok (.aload_n 0, 1) := by decide +kernel
theorem dL_law_638 : decode code 638 = .ok (.iload 4, 2) := by decide +kernel
theorem dL_law_640 : decode code 640 = .ok (.iconst 1, 1) := by decide +kernel
theorem dL_law_641 : decode code 641 = .ok (.iadd, 1) := by decide +kernel
theorem dL_law_642 : decode code 642 = .ok (.iaload, 1) := by decide +kernel
theorem dL_law_643 : decode code 643 = .ok (.aload_n 0, 1) := by decide +kernel
theorem dL_law_644 : decode code 644 = .ok (.iload 4, 2) := by decide +kernel
theorem dL_law_646 : decode code 646 = .ok (.iconst 2, 1) := by decide +kernel
theorem dL_law_647 : decode code 647 = .ok (.iadd, 1) := by decide +kernel
theorem dL_law_648 : decode code 648 = .ok (.iaload, 1) := by decide +kernel
theorem dL_law_649 : decode code 649 = .ok (.i2l, 1) := by decide +kernel
theorem dL_law_650 : decode code 650 = .ok (.bipush 32, 2) := by decide +kernel
theorem dL_law_652 : decode code 652 = .ok (.lshl, 1) := by decide +kernel
