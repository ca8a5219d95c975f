theorem dL_law_789 : decode code 789 = .ok (.iconst 1, 1) := by decide +kernel
theorem dL_law_790 : decode code 790 = .ok (.iadd, 1) := by decide +kernel
theorem dL_law_791 : decode code 791 = .ok (.iaload, 1) := by decide +kernel
theorem dL_law_792 : decode code 792 = .ok (.i2l, 1) := by decide +kernel
theorem dL_law_793 : decode code 793 = .ok (.bipush 32, 2) := by decide +kernel
theorem dL_law_795 : decode code 795 = .ok (.lshl, 1) := by decide +kernel
theorem dL_law_796 : decode code 796 = .ok (.aload_n 0, 1) := by decide +kernel
theorem dL_law_797 : decode code 797 = .ok (.iload 4, 2) := by decide +kernel
theorem dL_law_799 : decode code 799 = .ok (.iconst 2, 1) := by decide +kernel
theorem dL_law_800 : decode code 800 = .ok (.iadd, 1) := by decide +kernel
theorem dL_law_801 : decode code 801 = .ok (.iaload, 1) := by decide +kernel
theorem dL_law_802 : decode code 802 = .ok (.i2l, 1) := by decide +kernel
theorem dL_law_803 : decode code 803 = .ok (.ldc2_w 75, 3) := by decide +kernel
theorem dL_law_806 : decode code 806 = .ok (.land, 1) := by decide +kernel
theorem dL_law_807 : decode code 807 = .ok (.lor, 1) := by decide +kernel
theorem dL_law_808 : decode code 808 = .ok (.aload_n 3, 1) := by decide +kernel
theorem dL_law_809 : decode code 809 = .ok (.invokestatic 109, 3) := by decide +kernel
theorem dL_law_812 : decode code 812 = .ok (.istore 5, 2) := by decide +kernel
theorem dL_law_814 : decode code 814 = .ok (.aload_n 2, 1) := by decide +kernel
theorem dL_law_815 : decode code 815 = .ok (.aload_n 0, 1) := by decide +kernel
theorem dL_law_816 : decode code 816 = .ok (.iload 4, 2) := by decide +kernel
theorem dL_law_818 : decode code 818 = .ok (.iconst 1, 1) := by decide +kernel
theorem dL_law_819 : decode code 819 = .ok (.iadd, 1) := by decide +kernel
theorem dL_law_820 : decode code 820 = .ok (.iaload, 1) := by decide +kernel
theorem dL_law_821 : decode code 821 = .ok (.i2l, 1) := by decide +kernel
theorem dL_law_822 : decode code 822 = .ok (.bipush 32, 2) := by decide +kernel
theorem dL_law_824 : decode code 824 = .ok (.lshl, 1) := by decide +kernel
theorem dL_law_825 : decode code 825 = .ok (.aload_n 0, 1) := by decide +kernel
theorem dL_law_826 : decode code 826 = .ok (.iload 4, 2) := by decide +kernel
theorem dL_law_828 : decode code 828 = .ok (.iconst 2, 1) := by decide +kernel
theorem dL_law_829 : decode code 829 = .ok (.iadd, 1) := by decide +kernel
theorem dL_law_830 : decode code 830 = .ok (.iaload, 1) := by decide +kernel
theorem dL_law_831 : decode code 831 = .ok (.i2l, 1) := by decide +kernel
theorem dL_law_832 : decode code 832 = .ok (.ldc2_w 75, 3) := by decide +kernel
theorem dL_law_835 : decode code 835 = .ok (.land, 1) := by decide +kernel
theorem dL_law_836 : decode code 836 = .ok (.lor, 1) := by decide +kernel
theorem dL_law_837 : decode code 837 = .ok (.invokevirtual 112, 3) := by decide +kernel
theorem dL_law_840 : decode code 840 = .ok (.istore 6, 2) := by decide +kernel
theorem dL_law_842 : decode code 842 = .ok (.goto (512), 3) := by decide +kernel
theorem dL_law_845 : decode code 845 = .ok (.aload_n 1, 1) := by decide +kernel
theorem dL_law_846 : decode code 846 = .ok (.invokevirtual 113, 3) := by decide +kernel
theorem dL_law_849 : decode code 849 = .ok (.pop2, 1) := by decide +kernel
theorem dL_law_850 : decode code 850 = .ok (.aload_n 2, 1) := by decide +kernel
theorem dL_law_851 : decode code 851 = .ok (.invokevirtual 117, 3) := by decide +kernel
theorem dL_law_854 : decode code 854 = .ok (.pop2, 1) := by decide +kernel
theorem dL_law_855 : decode code 855 = .ok (.goto (499), 3) := by decide +kernel
theorem dL_law_858 : decode code 858 = .ok (.aload_n 1, 1) := by decide +kernel
theorem dL_law_859 : decode code 859 = .ok (.invokevirtual 118, 3) := by decide +kernel
theorem dL_law_862 : decode code 862 = .ok (.pop2, 1) := by decide +kernel
theorem dL_law_863 : decode code 863 = .ok (.aload_n 2, 1) := by decide +kernel
theorem dL_law_864 : decode code 864 = .ok (.invokevirtual 121, 3) := by decide +kernel
theorem dL_law_867 : decode code 867 = .ok (.pop2, 1) := by decide +kernel
theorem dL_law_868 : decode code 868 = .ok (.goto (486), 3) := by decide +kernel
theorem dL_law_871 : decode code 871 = .ok (.aload_n 1, 1) := by decide +kernel
theorem dL_law_872 : decode code 872 = .ok (.aload_n 0, 1) := by decide +kernel
theorem dL_law_873 : decode code 873 = .ok (.iload 4, 2) := by decide +kernel
theorem dL_law_875 : decode code 875 = .ok (.iconst 1, 1) := by decide +kernel
theorem dL_law_876 : decode code 876 = .ok (.iadd, 1) := by decide +kernel
theorem dL_law_877 : decode code 877 = .ok (.iaload, 1) := by decide +kernel
theorem dL_law_878 : decode code 878 = .ok (.aload_n 0, 1) := by decide +kernel
theorem dL_law_879 : decode code 879 = .ok (.iload 4, 2) := by decide +kernel
theorem dL_law_881 : decode code 881 = .ok (.iconst 2, 1) := by decide +kernel
theorem dL_law_882 : decode code 882 = .ok (.iadd, 1) := by decide +kernel
theorem dL_law_883 : decode code 883 = .ok (.iaload, 1) := by decide +kernel
theorem dL_law_884 : decode code 884 = .ok (.aload_n 0, 1) := by decide +kernel
theorem dL_law_885 : decode code 885 = .ok (.iload 4, 2) := by decide +kernel
theorem dL_law_887 : decode code 887 = .ok (.iconst 3, 1) := by decide +kernel
theorem dL_law_888 : decode code 888 = .ok (.iadd, 1) := by decide +kernel
theorem dL_law_889 : decode code 889 = .ok (.iaload, 1) := by decide +kernel
theorem dL_law_890 : decode code 890 = .ok (.i2l, 1) := by decide +kernel
theorem dL_law_891 : decode code 891 = .ok (.bipush 32, 2) := by decide +kernel
theorem dL_law_893 : decode code 893 = .ok (.lshl, 1) := by decide +kernel
theorem dL_law_894 : decode code 894 = .ok (.aload_n 0, 1) := by decide +kernel
theorem dL_law_895 : decode code 895 = .ok (.iload 4, 2) := by decide +kernel
theorem dL_law_897 : decode code 897 = .ok (.iconst 4, 1) := by decide +kernel
theorem dL_law_898 : decode code 898 = .ok (.iadd, 1) := by decide +kernel
theorem dL_law_899 : decode code 899 = .ok (.iaload, 1) := by decide +kernel
theorem dL_law_900 : decode code 900 = .ok (.i2l, 1) := by decide +kernel
theorem dL_law_901 : decode code 901 = .ok (.ldc2_w 75, 3) := by decide +kernel
theorem dL_law_904 : decode code 904 = .ok (.land, 1) := by decide +kernel
theorem dL_law_905 : decode code 905 = .ok (.lor, 1) := by decide +kernel
theorem dL_law_906 : decode code 906 = .ok (.aload_n 3, 1) := by decide +kernel
theorem dL_law_907 : decode code 907 = .ok (.invokestatic 122, 3) := by decide +kernel
theorem dL_law_910 : decode code 910 = .ok (.istore 5, 2) := by decide +kernel
theorem dL_law_912 : decode code 912 = .ok (.aload_n 2, 1) := by decide +kernel
theorem dL_law_913 : decode code 913 = .ok (.aload_n 0, 1) := by decide +kernel
theorem dL_law_914 : decode code 914 = .ok (.iload 4, 2) := by decide +kernel
theorem dL_law_916 : decode code 916 = .ok (.iconst 1, 1) := by decide +kernel
theorem dL_law_917 : decode code 917 = .ok (.iadd, 1) := by decide +kernel
theorem dL_law_918 : decode code 918 = .ok (.iaload, 1) := by decide +kernel
theorem dL_law_919 : decode code 919 = .ok (.aload_n 0, 1) := by decide +kernel
theorem dL_law_920 : decode code 920 = .ok (.iload 4, 2) := by decide +kernel
theorem dL_law_922 : decode code 922 = .ok (.iconst 2, 1) := by decide +kernel
theorem dL_law_923 : decode code 923 = .ok (.iadd, 1) := by decide +kernel
theorem dL_law_924 : decode code 924 = .ok (.iaload, 1) := by decide +kernel
theorem dL_law_925 : decode code 925 = .ok (.aload_n 0, 1) := by decide +kernel
theorem dL_law_926 : decode code 926 = .ok (.iload 4, 2) := by decide +kernel
theorem dL_law_928 : decode code 928 = .ok (.iconst 3, 1) := by decide +kernel
theorem dL_law_929 : decode code 929 = .ok (.iadd, 1) := by decide +kernel
theorem dL_law_930 : decode code 930 = .ok (.iaload, 1) := by decide +kernel
