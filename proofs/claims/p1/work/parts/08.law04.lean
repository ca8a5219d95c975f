theorem dL_law_735 : decode code 735 = .ok (.aload_n 0, 1) := by decide +kernel
theorem dL_law_736 : decode code 736 = .ok (.iload 4, 2) := by decide +kernel
theorem dL_law_738 : decode code 738 = .ok (.iconst 1, 1) := by decide +kernel
theorem dL_law_739 : decode code 739 = .ok (.iadd, 1) := by decide +kernel
theorem dL_law_740 : decode code 740 = .ok (.iaload, 1) := by decide +kernel
theorem dL_law_741 : decode code 741 = .ok (.aload_n 0, 1) := by decide +kernel
theorem dL_law_742 : decode code 742 = .ok (.iload 4, 2) := by decide +kernel
theorem dL_law_744 : decode code 744 = .ok (.iconst 2, 1) := by decide +kernel
theorem dL_law_745 : decode code 745 = .ok (.iadd, 1) := by decide +kernel
theorem dL_law_746 : decode code 746 = .ok (.iaload, 1) := by decide +kernel
theorem dL_law_747 : decode code 747 = .ok (.i2l, 1) := by decide +kernel
theorem dL_law_748 : decode code 748 = .ok (.bipush 32, 2) := by decide +kernel
theorem dL_law_750 : decode code 750 = .ok (.lshl, 1) := by decide +kernel
theorem dL_law_751 : decode code 751 = .ok (.aload_n 0, 1) := by decide +kernel
theorem dL_law_752 : decode code 752 = .ok (.iload 4, 2) := by decide +kernel
theorem dL_law_754 : decode code 754 = .ok (.iconst 3, 1) := by decide +kernel
theorem dL_law_755 : decode code 755 = .ok (.iadd, 1) := by decide +kernel
theorem dL_law_756 : decode code 756 = .ok (.iaload, 1) := by decide +kernel
theorem dL_law_757 : decode code 757 = .ok (.i2l, 1) := by decide +kernel
theorem dL_law_758 : decode code 758 = .ok (.ldc2_w 75, 3) := by decide +kernel
theorem dL_law_761 : decode code 761 = .ok (.land, 1) := by decide +kernel
theorem dL_law_762 : decode code 762 = .ok (.lor, 1) := by decide +kernel
theorem dL_law_763 : decode code 763 = .ok (.aload_n 0, 1) := by decide +kernel
theorem dL_law_764 : decode code 764 = .ok (.iload 4, 2) := by decide +kernel
theorem dL_law_766 : decode code 766 = .ok (.iconst 4, 1) := by decide +kernel
theorem dL_law_767 : decode code 767 = .ok (.iadd, 1) := by decide +kernel
theorem dL_law_768 : decode code 768 = .ok (.iaload, 1) := by decide +kernel
theorem dL_law_769 : decode code 769 = .ok (.i2l, 1) := by decide +kernel
theorem dL_law_770 : decode code 770 = .ok (.bipush 32, 2) := by decide +kernel
theorem dL_law_772 : decode code 772 = .ok (.lshl, 1) := by decide +kernel
theorem dL_law_773 : decode code 773 = .ok (.aload_n 0, 1) := by decide +kernel
theorem dL_law_774 : decode code 774 = .ok (.iload 4, 2) := by decide +kernel
theorem dL_law_776 : decode code 776 = .ok (.iconst 5, 1) := by decide +kernel
theorem dL_law_777 : decode code 777 = .ok (.iadd, 1) := by decide +kernel
theorem dL_law_778 : decode code 778 = .ok (.iaload, 1) := by decide +kernel
theorem dL_law_779 : decode code 779 = .ok (.i2l, 1) := by decide +kernel
theorem dL_law_780 : decode code 780 = .ok (.ldc2_w 75, 3) := by decide +kernel
theorem dL_law_783 : decode code 783 = .ok (.land, 1) := by decide +kernel
theorem dL_law_784 : decode code 784 = .ok (.lor, 1) := by decide +kernel
theorem dL_law_785 : decode code 785 = .ok (.aload_n 3, 1) := by decide +kernel
theorem dL_law_786 : decode code 786 = .ok (.invokestatic 101, 3) := by decide +kernel
theorem dL_law_789 : decode code 789 = .ok (.istore 5, 2) := by decide +kernel
theorem dL_law_791 : decode code 791 = .ok (.aload_n 2, 1) := by decide +kernel
theorem dL_law_792 : decode code 792 = .ok (.aload_n 0, 1) := by decide +kernel
theorem dL_law_793 : decode code 793 = .ok (.iload 4, 2) := by decide +kernel
theorem dL_law_795 : decode code 795 = .ok (.iconst 1, 1) := by decide +kernel
theorem dL_law_796 : decode code 796 = .ok (.iadd, 1) := by decide +kernel
theorem dL_law_797 : decode code 797 = .ok (.iaload, 1) := by decide +kernel
theorem dL_law_798 : decode code 798 = .ok (.aload_n 0, 1) := by decide +kernel
theorem dL_law_799 : decode code 799 = .ok (.iload 4, 2) := by decide +kernel
theorem dL_law_801 : decode code 801 = .ok (.iconst 2, 1) := by decide +kernel
theorem dL_law_802 : decode code 802 = .ok (.iadd, 1) := by decide +kernel
theorem dL_law_803 : decode code 803 = .ok (.iaload, 1) := by decide +kernel
theorem dL_law_804 : decode code 804 = .ok (.i2l, 1) := by decide +kernel
theorem dL_law_805 : decode code 805 = .ok (.bipush 32, 2) := by decide +kernel
theorem dL_law_807 : decode code 807 = .ok (.lshl, 1) := by decide +kernel
theorem dL_law_808 : decode code 808 = .ok (.aload_n 0, 1) := by decide +kernel
theorem dL_law_809 : decode code 809 = .ok (.iload 4, 2) := by decide +kernel
theorem dL_law_811 : decode code 811 = .ok (.iconst 3, 1) := by decide +kernel
theorem dL_law_812 : decode code 812 = .ok (.iadd, 1) := by decide +kernel
theorem dL_law_813 : decode code 813 = .ok (.iaload, 1) := by decide +kernel
theorem dL_law_814 : decode code 814 = .ok (.i2l, 1) := by decide +kernel
theorem dL_law_815 : decode code 815 = .ok (.ldc2_w 75, 3) := by decide +kernel
theorem dL_law_818 : decode code 818 = .ok (.land, 1) := by decide +kernel
theorem dL_law_819 : decode code 819 = .ok (.lor, 1) := by decide +kernel
theorem dL_law_820 : decode code 820 = .ok (.aload_n 0, 1) := by decide +kernel
theorem dL_law_821 : decode code 821 = .ok (.iload 4, 2) := by decide +kernel
theorem dL_law_823 : decode code 823 = .ok (.iconst 4, 1) := by decide +kernel
theorem dL_law_824 : decode code 824 = .ok (.iadd, 1) := by decide +kernel
theorem dL_law_825 : decode code 825 = .ok (.iaload, 1) := by decide +kernel
theorem dL_law_826 : decode code 826 = .ok (.i2l, 1) := by decide +kernel
theorem dL_law_827 : decode code 827 = .ok (.bipush 32, 2) := by decide +kernel
theorem dL_law_829 : decode code 829 = .ok (.lshl, 1) := by decide +kernel
theorem dL_law_830 : decode code 830 = .ok (.aload_n 0, 1) := by decide +kernel
theorem dL_law_831 : decode code 831 = .ok (.iload 4, 2) := by decide +kernel
theorem dL_law_833 : decode code 833 = .ok (.iconst 5, 1) := by decide +kernel
theorem dL_law_834 : decode code 834 = .ok (.iadd, 1) := by decide +kernel
theorem dL_law_835 : decode code 835 = .ok (.iaload, 1) := by decide +kernel
theorem dL_law_836 : decode code 836 = .ok (.i2l, 1) := by decide +kernel
theorem dL_law_837 : decode code 837 = .ok (.ldc2_w 75, 3) := by decide +kernel
theorem dL_law_840 : decode code 840 = .ok (.land, 1) := by decide +kernel
theorem dL_law_841 : decode code 841 = .ok (.lor, 1) := by decide +kernel
theorem dL_law_842 : decode code 842 = .ok (.invokevirtual 104, 3) := by decide +kernel
theorem dL_law_845 : decode code 845 = .ok (.istore 6, 2) := by decide +kernel
theorem dL_law_847 : decode code 847 = .ok (.aload_n 2, 1) := by decide +kernel
theorem dL_law_848 : decode code 848 = .ok (.invokevirtual 81, 3) := by decide +kernel
theorem dL_law_851 : decode code 851 = .ok (.iload 5, 2) := by decide +kernel
theorem dL_law_853 : decode code 853 = .ok (.if_icmp .eq (5), 3) := by decide +kernel
theorem dL_law_858 : decode code 858 = .ok (.iload 5, 2) := by decide +kernel
theorem dL_law_860 : decode code 860 = .ok (.ifCond .ne (15), 3) := by decide +kernel
theorem dL_law_875 : decode code 875 = .ok (.goto (830), 3) := by decide +kernel
theorem dL_law_878 : decode code 878 = .ok (.aload_n 1, 1) := by decide +kernel
theorem dL_law_879 : decode code 879 = .ok (.aload_n 0, 1) := by decide +kernel
theorem dL_law_880 : decode code 880 = .ok (.iload 4, 2) := by decide +kernel
theorem dL_law_882 : decode code 882 = .ok (.iconst 1, 1) := by decide +kernel
theorem dL_law_883 : decode code 883 = .ok (.iadd, 1) := by decide +kernel
theorem dL_law_884 : decode code 884 = .ok (.iaload, 1) := by decide +kernel
theorem dL_law_885 : decode code 885 = .ok (.aload_n 0, 1) := by decide +kernel
theorem dL_law_886 : decode code 886 = .ok (.iload 4, 2) := by decide +kernel
theorem dL_law_888 : decode code 888 = .ok (.iconst 2, 1) := by decide +kernel
