theorem dL_law_650 : decode code 650 = .ok (.iadd, 1) := by decide +kernel
theorem dL_law_651 : decode code 651 = .ok (.iaload, 1) := by decide +kernel
theorem dL_law_652 : decode code 652 = .ok (.i2l, 1) := by decide +kernel
theorem dL_law_653 : decode code 653 = .ok (.ldc2_w 75, 3) := by decide +kernel
theorem dL_law_656 : decode code 656 = .ok (.land, 1) := by decide +kernel
theorem dL_law_657 : decode code 657 = .ok (.lor, 1) := by decide +kernel
theorem dL_law_658 : decode code 658 = .ok (.aload_n 0, 1) := by decide +kernel
theorem dL_law_659 : decode code 659 = .ok (.iload 4, 2) := by decide +kernel
theorem dL_law_661 : decode code 661 = .ok (.iconst 4, 1) := by decide +kernel
theorem dL_law_662 : decode code 662 = .ok (.iadd, 1) := by decide +kernel
theorem dL_law_663 : decode code 663 = .ok (.iaload, 1) := by decide +kernel
theorem dL_law_664 : decode code 664 = .ok (.i2l, 1) := by decide +kernel
theorem dL_law_665 : decode code 665 = .ok (.bipush 32, 2) := by decide +kernel
theorem dL_law_667 : decode code 667 = .ok (.lshl, 1) := by decide +kernel
theorem dL_law_668 : decode code 668 = .ok (.aload_n 0, 1) := by decide +kernel
theorem dL_law_669 : decode code 669 = .ok (.iload 4, 2) := by decide +kernel
theorem dL_law_671 : decode code 671 = .ok (.iconst 5, 1) := by decide +kernel
theorem dL_law_672 : decode code 672 = .ok (.iadd, 1) := by decide +kernel
theorem dL_law_673 : decode code 673 = .ok (.iaload, 1) := by decide +kernel
theorem dL_law_674 : decode code 674 = .ok (.i2l, 1) := by decide +kernel
theorem dL_law_675 : decode code 675 = .ok (.ldc2_w 75, 3) := by decide +kernel
theorem dL_law_678 : decode code 678 = .ok (.land, 1) := by decide +kernel
theorem dL_law_679 : decode code 679 = .ok (.lor, 1) := by decide +kernel
theorem dL_law_680 : decode code 680 = .ok (.aload_n 3, 1) := by decide +kernel
theorem dL_law_681 : decode code 681 = .ok (.invokestatic 101, 3) := by decide +kernel
theorem dL_law_684 : decode code 684 = .ok (.istore 5, 2) := by decide +kernel
theorem dL_law_686 : decode code 686 = .ok (.aload_n 2, 1) := by decide +kernel
theorem dL_law_687 : decode code 687 = .ok (.aload_n 0, 1) := by decide +kernel
theorem dL_law_688 : decode code 688 = .ok (.iload 4, 2) := by decide +kernel
theorem dL_law_690 : decode code 690 = .ok (.iconst 1, 1) := by decide +kernel
theorem dL_law_691 : decode code 691 = .ok (.iadd, 1) := by decide +kernel
theorem dL_law_692 : decode code 692 = .ok (.iaload, 1) := by decide +kernel
theorem dL_law_693 : decode code 693 = .ok (.aload_n 0, 1) := by decide +kernel
theorem dL_law_694 : decode code 694 = .ok (.iload 4, 2) := by decide +kernel
theorem dL_law_696 : decode code 696 = .ok (.iconst 2, 1) := by decide +kernel
theorem dL_law_697 : decode code 697 = .ok (.iadd, 1) := by decide +kernel
theorem dL_law_698 : decode code 698 = .ok (.iaload, 1) := by decide +kernel
theorem dL_law_699 : decode code 699 = .ok (.i2l, 1) := by decide +kernel
theorem dL_law_700 : decode code 700 = .ok (.bipush 32, 2) := by decide +kernel
theorem dL_law_702 : decode code 702 = .ok (.lshl, 1) := by decide +kernel
theorem dL_law_703 : decode code 703 = .ok (.aload_n 0, 1) := by decide +kernel
theorem dL_law_704 : decode code 704 = .ok (.iload 4, 2) := by decide +kernel
theorem dL_law_706 : decode code 706 = .ok (.iconst 3, 1) := by decide +kernel
theorem dL_law_707 : decode code 707 = .ok (.iadd, 1) := by decide +kernel
theorem dL_law_708 : decode code 708 = .ok (.iaload, 1) := by decide +kernel
theorem dL_law_709 : decode code 709 = .ok (.i2l, 1) := by decide +kernel
theorem dL_law_710 : decode code 710 = .ok (.ldc2_w 75, 3) := by decide +kernel
theorem dL_law_713 : decode code 713 = .ok (.land, 1) := by decide +kernel
theorem dL_law_714 : decode code 714 = .ok (.lor, 1) := by decide +kernel
theorem dL_law_715 : decode code 715 = .ok (.aload_n 0, 1) := by decide +kernel
theorem dL_law_716 : decode code 716 = .ok (.iload 4, 2) := by decide +kernel
theorem dL_law_718 : decode code 718 = .ok (.iconst 4, 1) := by decide +kernel
theorem dL_law_719 : decode code 719 = .ok (.iadd, 1) := by decide +kernel
theorem dL_law_720 : decode code 720 = .ok (.iaload, 1) := by decide +kernel
theorem dL_law_721 : decode code 721 = .ok (.i2l, 1) := by decide +kernel
theorem dL_law_722 : decode code 722 = .ok (.bipush 32, 2) := by decide +kernel
theorem dL_law_724 : decode code 724 = .ok (.lshl, 1) := by decide +kernel
theorem dL_law_725 : decode code 725 = .ok (.aload_n 0, 1) := by decide +kernel
theorem dL_law_726 : decode code 726 = .ok (.iload 4, 2) := by decide +kernel
theorem dL_law_728 : decode code 728 = .ok (.iconst 5, 1) := by decide +kernel
theorem dL_law_729 : decode code 729 = .ok (.iadd, 1) := by decide +kernel
theorem dL_law_730 : decode code 730 = .ok (.iaload, 1) := by decide +kernel
theorem dL_law_731 : decode code 731 = .ok (.i2l, 1) := by decide +kernel
theorem dL_law_732 : decode code 732 = .ok (.ldc2_w 75, 3) := by decide +kernel
theorem dL_law_735 : decode code 735 = .ok (.land, 1) := by decide +kernel
theorem dL_law_736 : decode code 736 = .ok (.lor, 1) := by decide +kernel
theorem dL_law_737 : decode code 737 = .ok (.invokevirtual 104, 3) := by decide +kernel
theorem dL_law_740 : decode code 740 = .ok (.istore 6, 2) := by decide +kernel
theorem dL_law_742 : decode code 742 = .ok (.goto (612), 3) := by decide +kernel
theorem dL_law_745 : decode code 745 = .ok (.aload_n 1, 1) := by decide +kernel
theorem dL_law_746 : decode code 746 = .ok (.aload_n 0, 1) := by decide +kernel
theorem dL_law_747 : decode code 747 = .ok (.iload 4, 2) := by decide +kernel
theorem dL_law_749 : decode code 749 = .ok (.iconst 1, 1) := by decide +kernel
theorem dL_law_750 : decode code 750 = .ok (.iadd, 1) := by decide +kernel
theorem dL_law_751 : decode code 751 = .ok (.iaload, 1) := by decide +kernel
theorem dL_law_752 : decode code 752 = .ok (.aload_n 0, 1) := by decide +kernel
theorem dL_law_753 : decode code 753 = .ok (.iload 4, 2) := by decide +kernel
theorem dL_law_755 : decode code 755 = .ok (.iconst 2, 1) := by decide +kernel
theorem dL_law_756 : decode code 756 = .ok (.iadd, 1) := by decide +kernel
theorem dL_law_757 : decode code 757 = .ok (.iaload, 1) := by decide +kernel
theorem dL_law_758 : decode code 758 = .ok (.aload_n 3, 1) := by decide +kernel
theorem dL_law_759 : decode code 759 = .ok (.invokestatic 105, 3) := by decide +kernel
theorem dL_law_762 : decode code 762 = .ok (.istore 5, 2) := by decide +kernel
theorem dL_law_764 : decode code 764 = .ok (.aload_n 2, 1) := by decide +kernel
theorem dL_law_765 : decode code 765 = .ok (.aload_n 0, 1) := by decide +kernel
theorem dL_law_766 : decode code 766 = .ok (.iload 4, 2) := by decide +kernel
theorem dL_law_768 : decode code 768 = .ok (.iconst 1, 1) := by decide +kernel
theorem dL_law_769 : decode code 769 = .ok (.iadd, 1) := by decide +kernel
theorem dL_law_770 : decode code 770 = .ok (.iaload, 1) := by decide +kernel
theorem dL_law_771 : decode code 771 = .ok (.aload_n 0, 1) := by decide +kernel
theorem dL_law_772 : decode code 772 = .ok (.iload 4, 2) := by decide +kernel
theorem dL_law_774 : decode code 774 = .ok (.iconst 2, 1) := by decide +kernel
theorem dL_law_775 : decode code 775 = .ok (.iadd, 1) := by decide +kernel
theorem dL_law_776 : decode code 776 = .ok (.iaload, 1) := by decide +kernel
theorem dL_law_777 : decode code 777 = .ok (.invokevirtual 108, 3) := by decide +kernel
theorem dL_law_780 : decode code 780 = .ok (.lstore 6, 2) := by decide +kernel
theorem dL_law_782 : decode code 782 = .ok (.goto (572), 3) := by decide +kernel
theorem dL_law_785 : decode code 785 = .ok (.aload_n 1, 1) := by decide +kernel
theorem dL_law_786 : decode code 786 = .ok (.aload_n 0, 1) := by decide +kernel
theorem dL_law_787 : decode code 787 = .ok (.iload 4, 2) := by decide +kernel
