theorem dL_law_889 : decode code 889 = .ok (.iadd, 1) := by decide +kernel
theorem dL_law_890 : decode code 890 = .ok (.iaload, 1) := by decide +kernel
theorem dL_law_891 : decode code 891 = .ok (.aload_n 3, 1) := by decide +kernel
theorem dL_law_892 : decode code 892 = .ok (.invokestatic 105, 3) := by decide +kernel
theorem dL_law_895 : decode code 895 = .ok (.istore 5, 2) := by decide +kernel
theorem dL_law_897 : decode code 897 = .ok (.aload_n 2, 1) := by decide +kernel
theorem dL_law_898 : decode code 898 = .ok (.aload_n 0, 1) := by decide +kernel
theorem dL_law_899 : decode code 899 = .ok (.iload 4, 2) := by decide +kernel
theorem dL_law_901 : decode code 901 = .ok (.iconst 1, 1) := by decide +kernel
theorem dL_law_902 : decode code 902 = .ok (.iadd, 1) := by decide +kernel
theorem dL_law_903 : decode code 903 = .ok (.iaload, 1) := by decide +kernel
theorem dL_law_904 : decode code 904 = .ok (.aload_n 0, 1) := by decide +kernel
theorem dL_law_905 : decode code 905 = .ok (.iload 4, 2) := by decide +kernel
theorem dL_law_907 : decode code 907 = .ok (.iconst 2, 1) := by decide +kernel
theorem dL_law_908 : decode code 908 = .ok (.iadd, 1) := by decide +kernel
theorem dL_law_909 : decode code 909 = .ok (.iaload, 1) := by decide +kernel
theorem dL_law_910 : decode code 910 = .ok (.invokevirtual 108, 3) := by decide +kernel
theorem dL_law_913 : decode code 913 = .ok (.lstore 6, 2) := by decide +kernel
theorem dL_law_915 : decode code 915 = .ok (.aload_n 2, 1) := by decide +kernel
theorem dL_law_916 : decode code 916 = .ok (.invokevirtual 81, 3) := by decide +kernel
theorem dL_law_919 : decode code 919 = .ok (.iload 5, 2) := by decide +kernel
theorem dL_law_921 : decode code 921 = .ok (.if_icmp .eq (5), 3) := by decide +kernel
theorem dL_law_926 : decode code 926 = .ok (.iload 5, 2) := by decide +kernel
theorem dL_law_928 : decode code 928 = .ok (.ifCond .ne (14), 3) := by decide +kernel
theorem dL_law_942 : decode code 942 = .ok (.goto (763), 3) := by decide +kernel
theorem dL_law_945 : decode code 945 = .ok (.aload_n 1, 1) := by decide +kernel
theorem dL_law_946 : decode code 946 = .ok (.aload_n 0, 1) := by decide +kernel
theorem dL_law_947 : decode code 947 = .ok (.iload 4, 2) := by decide +kernel
theorem dL_law_949 : decode code 949 = .ok (.iconst 1, 1) := by decide +kernel
theorem dL_law_950 : decode code 950 = .ok (.iadd, 1) := by decide +kernel
theorem dL_law_951 : decode code 951 = .ok (.iaload, 1) := by decide +kernel
theorem dL_law_952 : decode code 952 = .ok (.i2l, 1) := by decide +kernel
theorem dL_law_953 : decode code 953 = .ok (.bipush 32, 2) := by decide +kernel
theorem dL_law_955 : decode code 955 = .ok (.lshl, 1) := by decide +kernel
theorem dL_law_956 : decode code 956 = .ok (.aload_n 0, 1) := by decide +kernel
theorem dL_law_957 : decode code 957 = .ok (.iload 4, 2) := by decide +kernel
theorem dL_law_959 : decode code 959 = .ok (.iconst 2, 1) := by decide +kernel
theorem dL_law_960 : decode code 960 = .ok (.iadd, 1) := by decide +kernel
theorem dL_law_961 : decode code 961 = .ok (.iaload, 1) := by decide +kernel
theorem dL_law_962 : decode code 962 = .ok (.i2l, 1) := by decide +kernel
theorem dL_law_963 : decode code 963 = .ok (.ldc2_w 75, 3) := by decide +kernel
theorem dL_law_966 : decode code 966 = .ok (.land, 1) := by decide +kernel
theorem dL_law_967 : decode code 967 = .ok (.lor, 1) := by decide +kernel
theorem dL_law_968 : decode code 968 = .ok (.aload_n 3, 1) := by decide +kernel
theorem dL_law_969 : decode code 969 = .ok (.invokestatic 109, 3) := by decide +kernel
theorem dL_law_972 : decode code 972 = .ok (.istore 5, 2) := by decide +kernel
theorem dL_law_974 : decode code 974 = .ok (.aload_n 2, 1) := by decide +kernel
theorem dL_law_975 : decode code 975 = .ok (.aload_n 0, 1) := by decide +kernel
theorem dL_law_976 : decode code 976 = .ok (.iload 4, 2) := by decide +kernel
theorem dL_law_978 : decode code 978 = .ok (.iconst 1, 1) := by decide +kernel
theorem dL_law_979 : decode code 979 = .ok (.iadd, 1) := by decide +kernel
theorem dL_law_980 : decode code 980 = .ok (.iaload, 1) := by decide +kernel
theorem dL_law_981 : decode code 981 = .ok (.i2l, 1) := by decide +kernel
theorem dL_law_982 : decode code 982 = .ok (.bipush 32, 2) := by decide +kernel
theorem dL_law_984 : decode code 984 = .ok (.lshl, 1) := by decide +kernel
theorem dL_law_985 : decode code 985 = .ok (.aload_n 0, 1) := by decide +kernel
theorem dL_law_986 : decode code 986 = .ok (.iload 4, 2) := by decide +kernel
theorem dL_law_988 : decode code 988 = .ok (.iconst 2, 1) := by decide +kernel
theorem dL_law_989 : decode code 989 = .ok (.iadd, 1) := by decide +kernel
theorem dL_law_990 : decode code 990 = .ok (.iaload, 1) := by decide +kernel
theorem dL_law_991 : decode code 991 = .ok (.i2l, 1) := by decide +kernel
theorem dL_law_992 : decode code 992 = .ok (.ldc2_w 75, 3) := by decide +kernel
theorem dL_law_995 : decode code 995 = .ok (.land, 1) := by decide +kernel
theorem dL_law_996 : decode code 996 = .ok (.lor, 1) := by decide +kernel
theorem dL_law_997 : decode code 997 = .ok (.invokevirtual 112, 3) := by decide +kernel
theorem dL_law_1000 : decode code 1000 = .ok (.istore 6, 2) := by decide +kernel
theorem dL_law_1002 : decode code 1002 = .ok (.aload_n 2, 1) := by decide +kernel
theorem dL_law_1003 : decode code 1003 = .ok (.invokevirtual 81, 3) := by decide +kernel
theorem dL_law_1006 : decode code 1006 = .ok (.iload 5, 2) := by decide +kernel
theorem dL_law_1008 : decode code 1008 = .ok (.if_icmp .eq (5), 3) := by decide +kernel
theorem dL_law_1013 : decode code 1013 = .ok (.iload 5, 2) := by decide +kernel
theorem dL_law_1015 : decode code 1015 = .ok (.ifCond .ne (15), 3) := by decide +kernel
theorem dL_law_1018 : decode code 1018 = .ok (.aload_n 3, 1) := by decide +kernel
theorem dL_law_1019 : decode code 1019 = .ok (.iconst 0, 1) := by decide +kernel
theorem dL_law_1020 : decode code 1020 = .ok (.laload, 1) := by decide +kernel
theorem dL_law_1021 : decode code 1021 = .ok (.iload 6, 2) := by decide +kernel
theorem dL_law_1023 : decode code 1023 = .ok (.i2l, 1) := by decide +kernel
theorem dL_law_1024 : decode code 1024 = .ok (.lcmp, 1) := by decide +kernel
theorem dL_law_1025 : decode code 1025 = .ok (.ifCond .eq (5), 3) := by decide +kernel
theorem dL_law_1030 : decode code 1030 = .ok (.goto (675), 3) := by decide +kernel
theorem dL_law_1033 : decode code 1033 = .ok (.aload_n 1, 1) := by decide +kernel
theorem dL_law_1034 : decode code 1034 = .ok (.invokevirtual 113, 3) := by decide +kernel
theorem dL_law_1037 : decode code 1037 = .ok (.aload_n 2, 1) := by decide +kernel
theorem dL_law_1038 : decode code 1038 = .ok (.invokevirtual 117, 3) := by decide +kernel
theorem dL_law_1041 : decode code 1041 = .ok (.lcmp, 1) := by decide +kernel
theorem dL_law_1042 : decode code 1042 = .ok (.ifCond .eq (663), 3) := by decide +kernel
theorem dL_law_1047 : decode code 1047 = .ok (.aload_n 1, 1) := by decide +kernel
theorem dL_law_1048 : decode code 1048 = .ok (.invokevirtual 118, 3) := by decide +kernel
theorem dL_law_1051 : decode code 1051 = .ok (.aload_n 2, 1) := by decide +kernel
theorem dL_law_1052 : decode code 1052 = .ok (.invokevirtual 121, 3) := by decide +kernel
theorem dL_law_1055 : decode code 1055 = .ok (.lcmp, 1) := by decide +kernel
theorem dL_law_1056 : decode code 1056 = .ok (.ifCond .eq (649), 3) := by decide +kernel
theorem dL_law_1061 : decode code 1061 = .ok (.aload_n 1, 1) := by decide +kernel
theorem dL_law_1062 : decode code 1062 = .ok (.aload_n 0, 1) := by decide +kernel
theorem dL_law_1063 : decode code 1063 = .ok (.iload 4, 2) := by decide +kernel
theorem dL_law_1065 : decode code 1065 = .ok (.iconst 1, 1) := by decide +kernel
theorem dL_law_1066 : decode code 1066 = .ok (.iadd, 1) := by decide +kernel
theorem dL_law_1067 : decode code 1067 = .ok (.iaload, 1) := by decide +kernel
theorem dL_law_1068 : decode code 1068 = .ok (.aload_n 0, 1) := by decide +kernel
theorem dL_law_1069 : decode code 1069 = .ok (.iload 4, 2) := by decide +kernel
