theorem dL_law_792 : decode code 792 = .ok (.aload_n 1, 1) := by decide +kernel
theorem dL_law_793 : decode code 793 = .ok (.aload_n 0, 1) := by decide +kernel
theorem dL_law_794 : decode code 794 = .ok (.iload 4, 2) := by decide +kernel
theorem dL_law_796 : decode code 796 = .ok (.iconst 1, 1) := by decide +kernel
theorem dL_law_797 : decode code 797 = .ok (.iadd, 1) := by decide +kernel
theorem dL_law_798 : decode code 798 = .ok (.iaload, 1) := by decide +kernel
theorem dL_law_799 : decode code 799 = .ok (.i2l, 1) := by decide +kernel
theorem dL_law_800 : decode code 800 = .ok (.bipush 32, 2) := by decide +kernel
theorem dL_law_802 : decode code 802 = .ok (.lshl, 1) := by decide +kernel
theorem dL_law_803 : decode code 803 = .ok (.aload_n 0, 1) := by decide +kernel
theorem dL_law_804 : decode code 804 = .ok (.iload 4, 2) := by decide +kernel
theorem dL_law_806 : decode code 806 = .ok (.iconst 2, 1) := by decide +kernel
theorem dL_law_807 : decode code 807 = .ok (.iadd, 1) := by decide +kernel
theorem dL_law_808 : decode code 808 = .ok (.iaload, 1) := by decide +kernel
theorem dL_law_809 : decode code 809 = .ok (.i2l, 1) := by decide +kernel
theorem dL_law_810 : decode code 810 = .ok (.ldc2_w 75, 3) := by decide +kernel
theorem dL_law_813 : decode code 813 = .ok (.land, 1) := by decide +kernel
theorem dL_law_814 : decode code 814 = .ok (.lor, 1) := by decide +kernel
theorem dL_law_815 : decode code 815 = .ok (.aload_n 3, 1) := by decide +kernel
theorem dL_law_816 : decode code 816 = .ok (.invokestatic 109, 3) := by decide +kernel
theorem dL_law_819 : decode code 819 = .ok (.istore 5, 2) := by decide +kernel
theorem dL_law_821 : decode code 821 = .ok (.aload_n 2, 1) := by decide +kernel
theorem dL_law_822 : decode code 822 = .ok (.aload_n 0, 1) := by decide +kernel
theorem dL_law_823 : decode code 823 = .ok (.iload 4, 2) := by decide +kernel
theorem dL_law_825 : decode code 825 = .ok (.iconst 1, 1) := by decide +kernel
theorem dL_law_826 : decode code 826 = .ok (.iadd, 1) := by decide +kernel
theorem dL_law_827 : decode code 827 = .ok (.iaload, 1) := by decide +kernel
theorem dL_law_828 : decode code 828 = .ok (.i2l, 1) := by decide +kernel
theorem dL_law_829 : decode code 829 = .ok (.bipush 32, 2) := by decide +kernel
theorem dL_law_831 : decode code 831 = .ok (.lshl, 1) := by decide +kernel
theorem dL_law_832 : decode code 832 = .ok (.aload_n 0, 1) := by decide +kernel
theorem dL_law_833 : decode code 833 = .ok (.iload 4, 2) := by decide +kernel
theorem dL_law_835 : decode code 835 = .ok (.iconst 2, 1) := by decide +kernel
theorem dL_law_836 : decode code 836 = .ok (.iadd, 1) := by decide +kernel
theorem dL_law_837 : decode code 837 = .ok (.iaload, 1) := by decide +kernel
theorem dL_law_838 : decode code 838 = .ok (.i2l, 1) := by decide +kernel
theorem dL_law_839 : decode code 839 = .ok (.ldc2_w 75, 3) := by decide +kernel
theorem dL_law_842 : decode code 842 = .ok (.land, 1) := by decide +kernel
theorem dL_law_843 : decode code 843 = .ok (.lor, 1) := by decide +kernel
theorem dL_law_844 : decode code 844 = .ok (.invokevirtual 112, 3) := by decide +kernel
theorem dL_law_847 : decode code 847 = .ok (.istore 6, 2) := by decide +kernel
theorem dL_law_849 : decode code 849 = .ok (.goto (512), 3) := by decide +kernel
theorem dL_law_852 : decode code 852 = .ok (.aload_n 1, 1) := by decide +kernel
theorem dL_law_853 : decode code 853 = .ok (.invokevirtual 113, 3) := by decide +kernel
theorem dL_law_856 : decode code 856 = .ok (.pop2, 1) := by decide +kernel
theorem dL_law_857 : decode code 857 = .ok (.aload_n 2, 1) := by decide +kernel
theorem dL_law_858 : decode code 858 = .ok (.invokevirtual 117, 3) := by decide +kernel
theorem dL_law_861 : decode code 861 = .ok (.pop2, 1) := by decide +kernel
theorem dL_law_862 : decode code 862 = .ok (.goto (499), 3) := by decide +kernel
theorem dL_law_865 : decode code 865 = .ok (.aload_n 1, 1) := by decide +kernel
theorem dL_law_866 : decode code 866 = .ok (.invokevirtual 118, 3) := by decide +kernel
theorem dL_law_869 : decode code 869 = .ok (.pop2, 1) := by decide +kernel
theorem dL_law_870 : decode code 870 = .ok (.aload_n 2, 1) := by decide +kernel
theorem dL_law_871 : decode code 871 = .ok (.invokevirtual 121, 3) := by decide +kernel
theorem dL_law_874 : decode code 874 = .ok (.pop2, 1) := by decide +kernel
theorem dL_law_875 : decode code 875 = .ok (.goto (486), 3) := by decide +kernel
theorem dL_law_878 : decode code 878 = .ok (.aload_n 1, 1) := by decide +kernel
theorem dL_law_879 : decode code 879 = .ok (.aload_n 0, 1) := by decide +kernel
theorem dL_law_880 : decode code 880 = .ok (.iload 4, 2) := by decide +kernel
theorem dL_law_882 : decode code 882 = .ok (.iconst 1, 1) := by decide +kernel
theorem dL_law_883 : decode code 883 = .ok (.iadd, 1) := by decide +kernel
theorem dL_law_884 : decode code 884 = .ok (.iaload, 1) := by decide +kernel
theorem dL_law_885 : decode code 885 = .ok (.aload_n 0, 1) := by decide +kernel
theorem dL_law_886 : decode code 886 = .ok (.iload 4, 2) := by decide +kernel
theorem dL_law_888 : decode code 888 = .ok (.iconst 2, 1) := by decide +kernel
theorem dL_law_889 : decode code 889 = .ok (.iadd, 1) := by decide +kernel
theorem dL_law_890 : decode code 890 = .ok (.iaload, 1) := by decide +kernel
theorem dL_law_891 : decode code 891 = .ok (.aload_n 0, 1) := by decide +kernel
theorem dL_law_892 : decode code 892 = .ok (.iload 4, 2) := by decide +kernel
theorem dL_law_894 : decode code 894 = .ok (.iconst 3, 1) := by decide +kernel
theorem dL_law_895 : decode code 895 = .ok (.iadd, 1) := by decide +kernel
theorem dL_law_896 : decode code 896 = .ok (.iaload, 1) := by decide +kernel
theorem dL_law_897 : decode code 897 = .ok (.i2l, 1) := by decide +kernel
theorem dL_law_898 : decode code 898 = .ok (.bipush 32, 2) := by decide +kernel
theorem dL_law_900 : decode code 900 = .ok (.lshl, 1) := by decide +kernel
theorem dL_law_901 : decode code 901 = .ok (.aload_n 0, 1) := by decide +kernel
theorem dL_law_902 : decode code 902 = .ok (.iload 4, 2) := by decide +kernel
theorem dL_law_904 : decode code 904 = .ok (.iconst 4, 1) := by decide +kernel
theorem dL_law_905 : decode code 905 = .ok (.iadd, 1) := by decide +kernel
theorem dL_law_906 : decode code 906 = .ok (.iaload, 1) := by decide +kernel
theorem dL_law_907 : decode code 907 = .ok (.i2l, 1) := by decide +kernel
theorem dL_law_908 : decode code 908 = .ok (.ldc2_w 75, 3) := by decide +kernel
theorem dL_law_911 : decode code 911 = .ok (.land, 1) := by decide +kernel
theorem dL_law_912 : decode code 912 = .ok (.lor, 1) := by decide +kernel
theorem dL_law_913 : decode code 913 = .ok (.aload_n 3, 1) := by decide +kernel
theorem dL_law_914 : decode code 914 = .ok (.invokestatic 122, 3) := by decide +kernel
theorem dL_law_917 : decode code 917 = .ok (.istore 5, 2) := by decide +kernel
theorem dL_law_919 : decode code 919 = .ok (.aload_n 2, 1) := by decide +kernel
theorem dL_law_920 : decode code 920 = .ok (.aload_n 0, 1) := by decide +kernel
theorem dL_law_921 : decode code 921 = .ok (.iload 4, 2) := by decide +kernel
theorem dL_law_923 : decode code 923 = .ok (.iconst 1, 1) := by decide +kernel
theorem dL_law_924 : decode code 924 = .ok (.iadd, 1) := by decide +kernel
theorem dL_law_925 : decode code 925 = .ok (.iaload, 1) := by decide +kernel
theorem dL_law_926 : decode code 926 = .ok (.aload_n 0, 1) := by decide +kernel
theorem dL_law_927 : decode code 927 = .ok (.iload 4, 2) := by decide +kernel
theorem dL_law_929 : decode code 929 = .ok (.iconst 2, 1) := by decide +kernel
theorem dL_law_930 : decode code 930 = .ok (.iadd, 1) := by decide +kernel
theorem dL_law_931 : decode code 931 = .ok (.iaload, 1) := by decide +kernel
theorem dL_law_932 : decode code 932 = .ok (.aload_n 0, 1) := by decide +kernel
theorem dL_law_933 : decode code 933 = .ok (.iload 4, 2) := by decide +kernel
