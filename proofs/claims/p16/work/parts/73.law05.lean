theorem dL_law_778 : decode code 778 = .ok (.land, 1) := by decide +kernel
theorem dL_law_779 : decode code 779 = .ok (.lor, 1) := by decide +kernel
theorem dL_law_780 : decode code 780 = .ok (.aload_n 3, 1) := by decide +kernel
theorem dL_law_781 : decode code 781 = .ok (.invokestatic 106, 3) := by decide +kernel
theorem dL_law_784 : decode code 784 = .ok (.istore 5, 2) := by decide +kernel
theorem dL_law_786 : decode code 786 = .ok (.aload_n 2, 1) := by decide +kernel
theorem dL_law_787 : decode code 787 = .ok (.aload_n 0, 1) := by decide +kernel
theorem dL_law_788 : decode code 788 = .ok (.iload 4, 2) := by decide +kernel
theorem dL_law_790 : decode code 790 = .ok (.iconst 1, 1) := by decide +kernel
theorem dL_law_791 : decode code 791 = .ok (.iadd, 1) := by decide +kernel
theorem dL_law_792 : decode code 792 = .ok (.iaload, 1) := by decide +kernel
theorem dL_law_793 : decode code 793 = .ok (.i2l, 1) := by decide +kernel
theorem dL_law_794 : decode code 794 = .ok (.bipush 32, 2) := by decide +kernel
theorem dL_law_796 : decode code 796 = .ok (.lshl, 1) := by decide +kernel
theorem dL_law_797 : decode code 797 = .ok (.aload_n 0, 1) := by decide +kernel
theorem dL_law_798 : decode code 798 = .ok (.iload 4, 2) := by decide +kernel
theorem dL_law_800 : decode code 800 = .ok (.iconst 2, 1) := by decide +kernel
theorem dL_law_801 : decode code 801 = .ok (.iadd, 1) := by decide +kernel
theorem dL_law_802 : decode code 802 = .ok (.iaload, 1) := by decide +kernel
theorem dL_law_803 : decode code 803 = .ok (.i2l, 1) := by decide +kernel
theorem dL_law_804 : decode code 804 = .ok (.ldc2_w 75, 3) := by decide +kernel
theorem dL_law_807 : decode code 807 = .ok (.land, 1) := by decide +kernel
theorem dL_law_808 : decode code 808 = .ok (.lor, 1) := by decide +kernel
theorem dL_law_809 : decode code 809 = .ok (.invokevirtual 109, 3) := by decide +kernel
theorem dL_law_812 : decode code 812 = .ok (.istore 6, 2) := by decide +kernel
theorem dL_law_814 : decode code 814 = .ok (.goto (512), 3) := by decide +kernel
theorem dL_law_817 : decode code 817 = .ok (.aload_n 1, 1) := by decide +kernel
theorem dL_law_818 : decode code 818 = .ok (.invokevirtual 110, 3) := by decide +kernel
theorem dL_law_821 : decode code 821 = .ok (.pop2, 1) := by decide +kernel
theorem dL_law_822 : decode code 822 = .ok (.aload_n 2, 1) := by decide +kernel
theorem dL_law_823 : decode code 823 = .ok (.invokevirtual 114, 3) := by decide +kernel
theorem dL_law_826 : decode code 826 = .ok (.pop2, 1) := by decide +kernel
theorem dL_law_827 : decode code 827 = .ok (.goto (499), 3) := by decide +kernel
theorem dL_law_830 : decode code 830 = .ok (.aload_n 1, 1) := by decide +kernel
theorem dL_law_831 : decode code 831 = .ok (.invokevirtual 115, 3) := by decide +kernel
theorem dL_law_834 : decode code 834 = .ok (.pop2, 1) := by decide +kernel
theorem dL_law_835 : decode code 835 = .ok (.aload_n 2, 1) := by decide +kernel
theorem dL_law_836 : decode code 836 = .ok (.invokevirtual 118, 3) := by decide +kernel
theorem dL_law_839 : decode code 839 = .ok (.pop2, 1) := by decide +kernel
theorem dL_law_840 : decode code 840 = .ok (.goto (486), 3) := by decide +kernel
theorem dL_law_843 : decode code 843 = .ok (.aload_n 1, 1) := by decide +kernel
theorem dL_law_844 : decode code 844 = .ok (.aload_n 0, 1) := by decide +kernel
theorem dL_law_845 : decode code 845 = .ok (.iload 4, 2) := by decide +kernel
theorem dL_law_847 : decode code 847 = .ok (.iconst 1, 1) := by decide +kernel
theorem dL_law_848 : decode code 848 = .ok (.iadd, 1) := by decide +kernel
theorem dL_law_849 : decode code 849 = .ok (.iaload, 1) := by decide +kernel
theorem dL_law_850 : decode code 850 = .ok (.aload_n 0, 1) := by decide +kernel
theorem dL_law_851 : decode code 851 = .ok (.iload 4, 2) := by decide +kernel
theorem dL_law_853 : decode code 853 = .ok (.iconst 2, 1) := by decide +kernel
theorem dL_law_854 : decode code 854 = .ok (.iadd, 1) := by decide +kernel
theorem dL_law_855 : decode code 855 = .ok (.iaload, 1) := by decide +kernel
theorem dL_law_856 : decode code 856 = .ok (.aload_n 0, 1) := by decide +kernel
theorem dL_law_857 : decode code 857 = .ok (.iload 4, 2) := by decide +kernel
theorem dL_law_859 : decode code 859 = .ok (.iconst 3, 1) := by decide +kernel
theorem dL_law_860 : decode code 860 = .ok (.iadd, 1) := by decide +kernel
theorem dL_law_861 : decode code 861 = .ok (.iaload, 1) := by decide +kernel
theorem dL_law_862 : decode code 862 = .ok (.i2l, 1) := by decide +kernel
theorem dL_law_863 : decode code 863 = .ok (.bipush 32, 2) := by decide +kernel
theorem dL_law_865 : decode code 865 = .ok (.lshl, 1) := by decide +kernel
theorem dL_law_866 : decode code 866 = .ok (.aload_n 0, 1) := by decide +kernel
theorem dL_law_867 : decode code 867 = .ok (.iload 4, 2) := by decide +kernel
theorem dL_law_869 : decode code 869 = .ok (.iconst 4, 1) := by decide +kernel
theorem dL_law_870 : decode code 870 = .ok (.iadd, 1) := by decide +kernel
theorem dL_law_871 : decode code 871 = .ok (.iaload, 1) := by decide +kernel
theorem dL_law_872 : decode code 872 = .ok (.i2l, 1) := by decide +kernel
theorem dL_law_873 : decode code 873 = .ok (.ldc2_w 75, 3) := by decide +kernel
theorem dL_law_876 : decode code 876 = .ok (.land, 1) := by decide +kernel
theorem dL_law_877 : decode code 877 = .ok (.lor, 1) := by decide +kernel
theorem dL_law_878 : decode code 878 = .ok (.aload_n 3, 1) := by decide +kernel
theorem dL_law_879 : decode code 879 = .ok (.invokestatic 119, 3) := by decide +kernel
theorem dL_law_882 : decode code 882 = .ok (.istore 5, 2) := by decide +kernel
theorem dL_law_884 : decode code 884 = .ok (.aload_n 2, 1) := by decide +kernel
theorem dL_law_885 : decode code 885 = .ok (.aload_n 0, 1) := by decide +kernel
theorem dL_law_886 : decode code 886 = .ok (.iload 4, 2) := by decide +kernel
theorem dL_law_888 : decode code 888 = .ok (.iconst 1, 1) := by decide +kernel
theorem dL_law_889 : decode code 889 = .ok (.iadd, 1) := by decide +kernel
theorem dL_law_890 : decode code 890 = .ok (.iaload, 1) := by decide +kernel
theorem dL_law_891 : decode code 891 = .ok (.aload_n 0, 1) := by decide +kernel
theorem dL_law_892 : decode code 892 = .ok (.iload 4, 2) := by decide +kernel
theorem dL_law_894 : decode code 894 = .ok (.iconst 2, 1) := by decide +kernel
theorem dL_law_895 : decode code 895 = .ok (.iadd, 1) := by decide +kernel
theorem dL_law_896 : decode code 896 = .ok (.iaload, 1) := by decide +kernel
theorem dL_law_897 : decode code 897 = .ok (.aload_n 0, 1) := by decide +kernel
theorem dL_law_898 : decode code 898 = .ok (.iload 4, 2) := by decide +kernel
theorem dL_law_900 : decode code 900 = .ok (.iconst 3, 1) := by decide +kernel
theorem dL_law_901 : decode code 901 = .ok (.iadd, 1) := by decide +kernel
theorem dL_law_902 : decode code 902 = .ok (.iaload, 1) := by decide +kernel
theorem dL_law_903 : decode code 903 = .ok (.i2l, 1) := by decide +kernel
theorem dL_law_904 : decode code 904 = .ok (.bipush 32, 2) := by decide +kernel
theorem dL_law_906 : decode code 906 = .ok (.lshl, 1) := by decide +kernel
theorem dL_law_907 : decode code 907 = .ok (.aload_n 0, 1) := by decide +kernel
theorem dL_law_908 : decode code 908 = .ok (.iload 4, 2) := by decide +kernel
theorem dL_law_910 : decode code 910 = .ok (.iconst 4, 1) := by decide +kernel
theorem dL_law_911 : decode code 911 = .ok (.iadd, 1) := by decide +kernel
theorem dL_law_912 : decode code 912 = .ok (.iaload, 1) := by decide +kernel
theorem dL_law_913 : decode code 913 = .ok (.i2l, 1) := by decide +kernel
theorem dL_law_914 : decode code 914 = .ok (.ldc2_w 75, 3) := by decide +kernel
theorem dL_law_917 : decode code 917 = .ok (.land, 1) := by decide +kernel
theorem dL_law_918 : decode code 918 = .ok (.lor, 1) := by decide +kernel
theorem dL_law_919 : decode code 919 = .ok (.invokevirtual 122, 3) := by decide +kernel
