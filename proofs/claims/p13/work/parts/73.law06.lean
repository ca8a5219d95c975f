theorem dL_law_922 : decode code 922 = .ok (.istore 6, 2) := by decide +kernel
theorem dL_law_924 : decode code 924 = .ok (.goto (430), 3) := by decide +kernel
theorem dL_law_927 : decode code 927 = .ok (.aload_n 1, 1) := by decide +kernel
theorem dL_law_928 : decode code 928 = .ok (.aload_n 0, 1) := by decide +kernel
theorem dL_law_929 : decode code 929 = .ok (.iload 4, 2) := by decide +kernel
theorem dL_law_931 : decode code 931 = .ok (.iconst 1, 1) := by decide +kernel
theorem dL_law_932 : decode code 932 = .ok (.iadd, 1) := by decide +kernel
theorem dL_law_933 : decode code 933 = .ok (.iaload, 1) := by decide +kernel
theorem dL_law_934 : decode code 934 = .ok (.aload_n 0, 1) := by decide +kernel
theorem dL_law_935 : decode code 935 = .ok (.iload 4, 2) := by decide +kernel
theorem dL_law_937 : decode code 937 = .ok (.iconst 2, 1) := by decide +kernel
theorem dL_law_938 : decode code 938 = .ok (.iadd, 1) := by decide +kernel
theorem dL_law_939 : decode code 939 = .ok (.iaload, 1) := by decide +kernel
theorem dL_law_940 : decode code 940 = .ok (.aload_n 3, 1) := by decide +kernel
theorem dL_law_941 : decode code 941 = .ok (.invokestatic 123, 3) := by decide +kernel
theorem dL_law_944 : decode code 944 = .ok (.istore 5, 2) := by decide +kernel
theorem dL_law_946 : decode code 946 = .ok (.aload_n 2, 1) := by decide +kernel
theorem dL_law_947 : decode code 947 = .ok (.aload_n 0, 1) := by decide +kernel
theorem dL_law_948 : decode code 948 = .ok (.iload 4, 2) := by decide +kernel
theorem dL_law_950 : decode code 950 = .ok (.iconst 1, 1) := by decide +kernel
theorem dL_law_951 : decode code 951 = .ok (.iadd, 1) := by decide +kernel
theorem dL_law_952 : decode code 952 = .ok (.iaload, 1) := by decide +kernel
theorem dL_law_953 : decode code 953 = .ok (.aload_n 0, 1) := by decide +kernel
theorem dL_law_954 : decode code 954 = .ok (.iload 4, 2) := by decide +kernel
theorem dL_law_956 : decode code 956 = .ok (.iconst 2, 1) := by decide +kernel
theorem dL_law_957 : decode code 957 = .ok (.iadd, 1) := by decide +kernel
theorem dL_law_958 : decode code 958 = .ok (.iaload, 1) := by decide +kernel
theorem dL_law_959 : decode code 959 = .ok (.invokevirtual 125, 3) := by decide +kernel
theorem dL_law_962 : decode code 962 = .ok (.istore 6, 2) := by decide +kernel
theorem dL_law_964 : decode code 964 = .ok (.aload_n 2, 1) := by decide +kernel
theorem dL_law_965 : decode code 965 = .ok (.invokevirtual 126, 3) := by decide +kernel
theorem dL_law_968 : decode code 968 = .ok (.iload 5, 2) := by decide +kernel
theorem dL_law_970 : decode code 970 = .ok (.if_icmp .eq (5), 3) := by decide +kernel
theorem dL_law_975 : decode code 975 = .ok (.iload 5, 2) := by decide +kernel
theorem dL_law_977 : decode code 977 = .ok (.ifCond .ne (15), 3) := by decide +kernel
theorem dL_law_980 : decode code 980 = .ok (.aload_n 3, 1) := by decide +kernel
theorem dL_law_981 : decode code 981 = .ok (.iconst 0, 1) := by decide +kernel
theorem dL_law_982 : decode code 982 = .ok (.laload, 1) := by decide +kernel
theorem dL_law_983 : decode code 983 = .ok (.iload 6, 2) := by decide +kernel
theorem dL_law_985 : decode code 985 = .ok (.i2l, 1) := by decide +kernel
theorem dL_law_986 : decode code 986 = .ok (.lcmp, 1) := by decide +kernel
theorem dL_law_987 : decode code 987 = .ok (.ifCond .eq (5), 3) := by decide +kernel
theorem dL_law_992 : decode code 992 = .ok (.goto (362), 3) := by decide +kernel
theorem dL_law_995 : decode code 995 = .ok (.aload_n 1, 1) := by decide +kernel
theorem dL_law_996 : decode code 996 = .ok (.aload_n 0, 1) := by decide +kernel
theorem dL_law_997 : decode code 997 = .ok (.iload 4, 2) := by decide +kernel
theorem dL_law_999 : decode code 999 = .ok (.iconst 1, 1) := by decide +kernel
theorem dL_law_1000 : decode code 1000 = .ok (.iadd, 1) := by decide +kernel
theorem dL_law_1001 : decode code 1001 = .ok (.iaload, 1) := by decide +kernel
theorem dL_law_1002 : decode code 1002 = .ok (.aload_n 0, 1) := by decide +kernel
theorem dL_law_1003 : decode code 1003 = .ok (.iload 4, 2) := by decide +kernel
theorem dL_law_1005 : decode code 1005 = .ok (.iconst 2, 1) := by decide +kernel
theorem dL_law_1006 : decode code 1006 = .ok (.iadd, 1) := by decide +kernel
theorem dL_law_1007 : decode code 1007 = .ok (.iaload, 1) := by decide +kernel
theorem dL_law_1008 : decode code 1008 = .ok (.i2l, 1) := by decide +kernel
theorem dL_law_1009 : decode code 1009 = .ok (.bipush 32, 2) := by decide +kernel
theorem dL_law_1011 : decode code 1011 = .ok (.lshl, 1) := by decide +kernel
theorem dL_law_1012 : decode code 1012 = .ok (.aload_n 0, 1) := by decide +kernel
theorem dL_law_1013 : decode code 1013 = .ok (.iload 4, 2) := by decide +kernel
theorem dL_law_1015 : decode code 1015 = .ok (.iconst 3, 1) := by decide +kernel
theorem dL_law_1016 : decode code 1016 = .ok (.iadd, 1) := by decide +kernel
theorem dL_law_1017 : decode code 1017 = .ok (.iaload, 1) := by decide +kernel
theorem dL_law_1018 : decode code 1018 = .ok (.i2l, 1) := by decide +kernel
theorem dL_law_1019 : decode code 1019 = .ok (.ldc2_w 75, 3) := by decide +kernel
theorem dL_law_1022 : decode code 1022 = .ok (.land, 1) := by decide +kernel
theorem dL_law_1023 : decode code 1023 = .ok (.lor, 1) := by decide +kernel
theorem dL_law_1024 : decode code 1024 = .ok (.aload_n 3, 1) := by decide +kernel
theorem dL_law_1025 : decode code 1025 = .ok (.invokestatic 129, 3) := by decide +kernel
theorem dL_law_1028 : decode code 1028 = .ok (.istore 5, 2) := by decide +kernel
theorem dL_law_1030 : decode code 1030 = .ok (.aload_n 2, 1) := by decide +kernel
theorem dL_law_1031 : decode code 1031 = .ok (.aload_n 0, 1) := by decide +kernel
theorem dL_law_1032 : decode code 1032 = .ok (.iload 4, 2) := by decide +kernel
theorem dL_law_1034 : decode code 1034 = .ok (.iconst 1, 1) := by decide +kernel
theorem dL_law_1035 : decode code 1035 = .ok (.iadd, 1) := by decide +kernel
theorem dL_law_1036 : decode code 1036 = .ok (.iaload, 1) := by decide +kernel
theorem dL_law_1037 : decode code 1037 = .ok (.aload_n 0, 1) := by decide +kernel
theorem dL_law_1038 : decode code 1038 = .ok (.iload 4, 2) := by decide +kernel
theorem dL_law_1040 : decode code 1040 = .ok (.iconst 2, 1) := by decide +kernel
theorem dL_law_1041 : decode code 1041 = .ok (.iadd, 1) := by decide +kernel
theorem dL_law_1042 : decode code 1042 = .ok (.iaload, 1) := by decide +kernel
theorem dL_law_1043 : decode code 1043 = .ok (.i2l, 1) := by decide +kernel
theorem dL_law_1044 : decode code 1044 = .ok (.bipush 32, 2) := by decide +kernel
theorem dL_law_1046 : decode code 1046 = .ok (.lshl, 1) := by decide +kernel
theorem dL_law_1047 : decode code 1047 = .ok (.aload_n 0, 1) := by decide +kernel
theorem dL_law_1048 : decode code 1048 = .ok (.iload 4, 2) := by decide +kernel
theorem dL_law_1050 : decode code 1050 = .ok (.iconst 3, 1) := by decide +kernel
theorem dL_law_1051 : decode code 1051 = .ok (.iadd, 1) := by decide +kernel
theorem dL_law_1052 : decode code 1052 = .ok (.iaload, 1) := by decide +kernel
theorem dL_law_1053 : decode code 1053 = .ok (.i2l, 1) := by decide +kernel
theorem dL_law_1054 : decode code 1054 = .ok (.ldc2_w 75, 3) := by decide +kernel
theorem dL_law_1057 : decode code 1057 = .ok (.land, 1) := by decide +kernel
theorem dL_law_1058 : decode code 1058 = .ok (.lor, 1) := by decide +kernel
theorem dL_law_1059 : decode code 1059 = .ok (.invokevirtual 132, 3) := by decide +kernel
theorem dL_law_1062 : decode code 1062 = .ok (.istore 6, 2) := by decide +kernel
theorem dL_law_1064 : decode code 1064 = .ok (.goto (290), 3) := by decide +kernel
theorem dL_law_1067 : decode code 1067 = .ok (.aload_n 1, 1) := by decide +kernel
theorem dL_law_1068 : decode code 1068 = .ok (.aload_n 0, 1) := by decide +kernel
theorem dL_law_1069 : decode code 1069 = .ok (.iload 4, 2) := by decide +kernel
theorem dL_law_1071 : decode code 1071 = .ok (.iconst 1, 1) := by decide +kernel
theorem dL_law_1072 : decode code 1072 = .ok (.iadd, 1) := by decide +kernel
