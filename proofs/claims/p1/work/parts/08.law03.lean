theorem dL_law_573 : decode code 573 = .ok (.iconst 1, 1) := by decide +kernel
theorem dL_law_574 : decode code 574 = .ok (.iadd, 1) := by decide +kernel
theorem dL_law_575 : decode code 575 = .ok (.iaload, 1) := by decide +kernel
theorem dL_law_576 : decode code 576 = .ok (.aload_n 0, 1) := by decide +kernel
theorem dL_law_577 : decode code 577 = .ok (.iload 4, 2) := by decide +kernel
theorem dL_law_579 : decode code 579 = .ok (.iconst 2, 1) := by decide +kernel
theorem dL_law_580 : decode code 580 = .ok (.iadd, 1) := by decide +kernel
theorem dL_law_581 : decode code 581 = .ok (.iaload, 1) := by decide +kernel
theorem dL_law_582 : decode code 582 = .ok (.aload_n 0, 1) := by decide +kernel
theorem dL_law_583 : decode code 583 = .ok (.iload 4, 2) := by decide +kernel
theorem dL_law_585 : decode code 585 = .ok (.iconst 3, 1) := by decide +kernel
theorem dL_law_586 : decode code 586 = .ok (.iadd, 1) := by decide +kernel
theorem dL_law_587 : decode code 587 = .ok (.iaload, 1) := by decide +kernel
theorem dL_law_588 : decode code 588 = .ok (.i2l, 1) := by decide +kernel
theorem dL_law_589 : decode code 589 = .ok (.bipush 32, 2) := by decide +kernel
theorem dL_law_591 : decode code 591 = .ok (.lshl, 1) := by decide +kernel
theorem dL_law_592 : decode code 592 = .ok (.aload_n 0, 1) := by decide +kernel
theorem dL_law_593 : decode code 593 = .ok (.iload 4, 2) := by decide +kernel
theorem dL_law_595 : decode code 595 = .ok (.iconst 4, 1) := by decide +kernel
theorem dL_law_596 : decode code 596 = .ok (.iadd, 1) := by decide +kernel
theorem dL_law_597 : decode code 597 = .ok (.iaload, 1) := by decide +kernel
theorem dL_law_598 : decode code 598 = .ok (.i2l, 1) := by decide +kernel
theorem dL_law_599 : decode code 599 = .ok (.ldc2_w 75, 3) := by decide +kernel
theorem dL_law_602 : decode code 602 = .ok (.land, 1) := by decide +kernel
theorem dL_law_603 : decode code 603 = .ok (.lor, 1) := by decide +kernel
theorem dL_law_604 : decode code 604 = .ok (.aload_n 0, 1) := by decide +kernel
theorem dL_law_605 : decode code 605 = .ok (.iload 4, 2) := by decide +kernel
theorem dL_law_607 : decode code 607 = .ok (.iconst 5, 1) := by decide +kernel
theorem dL_law_608 : decode code 608 = .ok (.iadd, 1) := by decide +kernel
theorem dL_law_609 : decode code 609 = .ok (.iaload, 1) := by decide +kernel
theorem dL_law_610 : decode code 610 = .ok (.i2l, 1) := by decide +kernel
theorem dL_law_611 : decode code 611 = .ok (.bipush 32, 2) := by decide +kernel
theorem dL_law_613 : decode code 613 = .ok (.lshl, 1) := by decide +kernel
theorem dL_law_614 : decode code 614 = .ok (.aload_n 0, 1) := by decide +kernel
theorem dL_law_615 : decode code 615 = .ok (.iload 4, 2) := by decide +kernel
theorem dL_law_617 : decode code 617 = .ok (.bipush 6, 2) := by decide +kernel
theorem dL_law_619 : decode code 619 = .ok (.iadd, 1) := by decide +kernel
theorem dL_law_620 : decode code 620 = .ok (.iaload, 1) := by decide +kernel
theorem dL_law_621 : decode code 621 = .ok (.i2l, 1) := by decide +kernel
theorem dL_law_622 : decode code 622 = .ok (.ldc2_w 75, 3) := by decide +kernel
theorem dL_law_625 : decode code 625 = .ok (.land, 1) := by decide +kernel
theorem dL_law_626 : decode code 626 = .ok (.lor, 1) := by decide +kernel
theorem dL_law_627 : decode code 627 = .ok (.aload_n 3, 1) := by decide +kernel
theorem dL_law_628 : decode code 628 = .ok (.invokestatic 97, 3) := by decide +kernel
theorem dL_law_631 : decode code 631 = .ok (.istore 5, 2) := by decide +kernel
theorem dL_law_633 : decode code 633 = .ok (.aload_n 2, 1) := by decide +kernel
theorem dL_law_634 : decode code 634 = .ok (.aload_n 0, 1) := by decide +kernel
theorem dL_law_635 : decode code 635 = .ok (.iload 4, 2) := by decide +kernel
theorem dL_law_637 : decode code 637 = .ok (.iconst 1, 1) := by decide +kernel
theorem dL_law_638 : decode code 638 = .ok (.iadd, 1) := by decide +kernel
theorem dL_law_639 : decode code 639 = .ok (.iaload, 1) := by decide +kernel
theorem dL_law_640 : decode code 640 = .ok (.aload_n 0, 1) := by decide +kernel
theorem dL_law_641 : decode code 641 = .ok (.iload 4, 2) := by decide +kernel
theorem dL_law_643 : decode code 643 = .ok (.iconst 2, 1) := by decide +kernel
theorem dL_law_644 : decode code 644 = .ok (.iadd, 1) := by decide +kernel
theorem dL_law_645 : decode code 645 = .ok (.iaload, 1) := by decide +kernel
theorem dL_law_646 : decode code 646 = .ok (.aload_n 0, 1) := by decide +kernel
theorem dL_law_647 : decode code 647 = .ok (.iload 4, 2) := by decide +kernel
theorem dL_law_649 : decode code 649 = .ok (.iconst 3, 1) := by decide +kernel
theorem dL_law_650 : decode code 650 = .ok (.iadd, 1) := by decide +kernel
theorem dL_law_651 : decode code 651 = .ok (.iaload, 1) := by decide +kernel
theorem dL_law_652 : decode code 652 = .ok (.i2l, 1) := by decide +kernel
theorem dL_law_653 : decode code 653 = .ok (.bipush 32, 2) := by decide +kernel
theorem dL_law_655 : decode code 655 = .ok (.lshl, 1) := by decide +kernel
theorem dL_law_656 : decode code 656 = .ok (.aload_n 0, 1) := by decide +kernel
theorem dL_law_657 : decode code 657 = .ok (.iload 4, 2) := by decide +kernel
theorem dL_law_659 : decode code 659 = .ok (.iconst 4, 1) := by decide +kernel
theorem dL_law_660 : decode code 660 = .ok (.iadd, 1) := by decide +kernel
theorem dL_law_661 : decode code 661 = .ok (.iaload, 1) := by decide +kernel
theorem dL_law_662 : decode code 662 = .ok (.i2l, 1) := by decide +kernel
theorem dL_law_663 : decode code 663 = .ok (.ldc2_w 75, 3) := by decide +kernel
theorem dL_law_666 : decode code 666 = .ok (.land, 1) := by decide +kernel
theorem dL_law_667 : decode code 667 = .ok (.lor, 1) := by decide +kernel
theorem dL_law_668 : decode code 668 = .ok (.aload_n 0, 1) := by decide +kernel
theorem dL_law_669 : decode code 669 = .ok (.iload 4, 2) := by decide +kernel
theorem dL_law_671 : decode code 671 = .ok (.iconst 5, 1) := by decide +kernel
theorem dL_law_672 : decode code 672 = .ok (.iadd, 1) := by decide +kernel
theorem dL_law_673 : decode code 673 = .ok (.iaload, 1) := by decide +kernel
theorem dL_law_674 : decode code 674 = .ok (.i2l, 1) := by decide +kernel
theorem dL_law_675 : decode code 675 = .ok (.bipush 32, 2) := by decide +kernel
theorem dL_law_677 : decode code 677 = .ok (.lshl, 1) := by decide +kernel
theorem dL_law_678 : decode code 678 = .ok (.aload_n 0, 1) := by decide +kernel
theorem dL_law_679 : decode code 679 = .ok (.iload 4, 2) := by decide +kernel
theorem dL_law_681 : decode code 681 = .ok (.bipush 6, 2) := by decide +kernel
theorem dL_law_683 : decode code 683 = .ok (.iadd, 1) := by decide +kernel
theorem dL_law_684 : decode code 684 = .ok (.iaload, 1) := by decide +kernel
theorem dL_law_685 : decode code 685 = .ok (.i2l, 1) := by decide +kernel
theorem dL_law_686 : decode code 686 = .ok (.ldc2_w 75, 3) := by decide +kernel
theorem dL_law_689 : decode code 689 = .ok (.land, 1) := by decide +kernel
theorem dL_law_690 : decode code 690 = .ok (.lor, 1) := by decide +kernel
theorem dL_law_691 : decode code 691 = .ok (.invokevirtual 100, 3) := by decide +kernel
theorem dL_law_694 : decode code 694 = .ok (.istore 6, 2) := by decide +kernel
theorem dL_law_696 : decode code 696 = .ok (.aload_n 2, 1) := by decide +kernel
theorem dL_law_697 : decode code 697 = .ok (.invokevirtual 81, 3) := by decide +kernel
theorem dL_law_700 : decode code 700 = .ok (.iload 5, 2) := by decide +kernel
theorem dL_law_702 : decode code 702 = .ok (.if_icmp .eq (5), 3) := by decide +kernel
theorem dL_law_707 : decode code 707 = .ok (.iload 5, 2) := by decide +kernel
theorem dL_law_709 : decode code 709 = .ok (.ifCond .ne (22), 3) := by decide +kernel
theorem dL_law_731 : decode code 731 = .ok (.goto (974), 3) := by decide +kernel
theorem dL_law_734 : decode code 734 = .ok (.aload_n 1, 1) := by decide +kernel
