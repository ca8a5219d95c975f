theorem dL_law_935 : decode code 935 = .ok (.iconst 3, 1) := by decide +kernel
theorem dL_law_936 : decode code 936 = .ok (.iadd, 1) := by decide +kernel
theorem dL_law_937 : decode code 937 = .ok (.iaload, 1) := by decide +kernel
theorem dL_law_938 : decode code 938 = .ok (.i2l, 1) := by decide +kernel
theorem dL_law_939 : decode code 939 = .ok (.bipush 32, 2) := by decide +kernel
theorem dL_law_941 : decode code 941 = .ok (.lshl, 1) := by decide +kernel
theorem dL_law_942 : decode code 942 = .ok (.aload_n 0, 1) := by decide +kernel
theorem dL_law_943 : decode code 943 = .ok (.iload 4, 2) := by decide +kernel
theorem dL_law_945 : decode code 945 = .ok (.iconst 4, 1) := by decide +kernel
theorem dL_law_946 : decode code 946 = .ok (.iadd, 1) := by decide +kernel
theorem dL_law_947 : decode code 947 = .ok (.iaload, 1) := by decide +kernel
theorem dL_law_948 : decode code 948 = .ok (.i2l, 1) := by decide +kernel
theorem dL_law_949 : decode code 949 = .ok (.ldc2_w 75, 3) := by decide +kernel
theorem dL_law_952 : decode code 952 = .ok (.land, 1) := by decide +kernel
theorem dL_law_953 : decode code 953 = .ok (.lor, 1) := by decide +kernel
theorem dL_law_954 : decode code 954 = .ok (.invokevirtual 125, 3) := by decide +kernel
theorem dL_law_957 : decode code 957 = .ok (.istore 6, 2) := by decide +kernel
theorem dL_law_959 : decode code 959 = .ok (.goto (402), 3) := by decide +kernel
theorem dL_law_962 : decode code 962 = .ok (.aload_n 1, 1) := by decide +kernel
theorem dL_law_963 : decode code 963 = .ok (.aload_n 0, 1) := by decide +kernel
theorem dL_law_964 : decode code 964 = .ok (.iload 4, 2) := by decide +kernel
theorem dL_law_966 : decode code 966 = .ok (.iconst 1, 1) := by decide +kernel
theorem dL_law_967 : decode code 967 = .ok (.iadd, 1) := by decide +kernel
theorem dL_law_968 : decode code 968 = .ok (.iaload, 1) := by decide +kernel
theorem dL_law_969 : decode code 969 = .ok (.aload_n 0, 1) := by decide +kernel
theorem dL_law_970 : decode code 970 = .ok (.iload 4, 2) := by decide +kernel
theorem dL_law_972 : decode code 972 = .ok (.iconst 2, 1) := by decide +kernel
theorem dL_law_973 : decode code 973 = .ok (.iadd, 1) := by decide +kernel
theorem dL_law_974 : decode code 974 = .ok (.iaload, 1) := by decide +kernel
theorem dL_law_975 : decode code 975 = .ok (.aload_n 3, 1) := by decide +kernel
theorem dL_law_976 : decode code 976 = .ok (.invokestatic 126, 3) := by decide +kernel
theorem dL_law_979 : decode code 979 = .ok (.istore 5, 2) := by decide +kernel
theorem dL_law_981 : decode code 981 = .ok (.aload_n 2, 1) := by decide +kernel
theorem dL_law_982 : decode code 982 = .ok (.aload_n 0, 1) := by decide +kernel
theorem dL_law_983 : decode code 983 = .ok (.iload 4, 2) := by decide +kernel
theorem dL_law_985 : decode code 985 = .ok (.iconst 1, 1) := by decide +kernel
theorem dL_law_986 : decode code 986 = .ok (.iadd, 1) := by decide +kernel
theorem dL_law_987 : decode code 987 = .ok (.iaload, 1) := by decide +kernel
theorem dL_law_988 : decode code 988 = .ok (.aload_n 0, 1) := by decide +kernel
theorem dL_law_989 : decode code 989 = .ok (.iload 4, 2) := by decide +kernel
theorem dL_law_991 : decode code 991 = .ok (.iconst 2, 1) := by decide +kernel
theorem dL_law_992 : decode code 992 = .ok (.iadd, 1) := by decide +kernel
theorem dL_law_993 : decode code 993 = .ok (.iaload, 1) := by decide +kernel
theorem dL_law_994 : decode code 994 = .ok (.invokevirtual 128, 3) := by decide +kernel
theorem dL_law_997 : decode code 997 = .ok (.istore 6, 2) := by decide +kernel
theorem dL_law_999 : decode code 999 = .ok (.goto (362), 3) := by decide +kernel
theorem dL_law_1002 : decode code 1002 = .ok (.aload_n 1, 1) := by decide +kernel
theorem dL_law_1003 : decode code 1003 = .ok (.aload_n 0, 1) := by decide +kernel
theorem dL_law_1004 : decode code 1004 = .ok (.iload 4, 2) := by decide +kernel
theorem dL_law_1006 : decode code 1006 = .ok (.iconst 1, 1) := by decide +kernel
theorem dL_law_1007 : decode code 1007 = .ok (.iadd, 1) := by decide +kernel
theorem dL_law_1008 : decode code 1008 = .ok (.iaload, 1) := by decide +kernel
theorem dL_law_1009 : decode code 1009 = .ok (.aload_n 0, 1) := by decide +kernel
theorem dL_law_1010 : decode code 1010 = .ok (.iload 4, 2) := by decide +kernel
theorem dL_law_1012 : decode code 1012 = .ok (.iconst 2, 1) := by decide +kernel
theorem dL_law_1013 : decode code 1013 = .ok (.iadd, 1) := by decide +kernel
theorem dL_law_1014 : decode code 1014 = .ok (.iaload, 1) := by decide +kernel
theorem dL_law_1015 : decode code 1015 = .ok (.i2l, 1) := by decide +kernel
theorem dL_law_1016 : decode code 1016 = .ok (.bipush 32, 2) := by decide +kernel
theorem dL_law_1018 : decode code 1018 = .ok (.lshl, 1) := by decide +kernel
theorem dL_law_1019 : decode code 1019 = .ok (.aload_n 0, 1) := by decide +kernel
theorem dL_law_1020 : decode code 1020 = .ok (.iload 4, 2) := by decide +kernel
theorem dL_law_1022 : decode code 1022 = .ok (.iconst 3, 1) := by decide +kernel
theorem dL_law_1023 : decode code 1023 = .ok (.iadd, 1) := by decide +kernel
theorem dL_law_1024 : decode code 1024 = .ok (.iaload, 1) := by decide +kernel
theorem dL_law_1025 : decode code 1025 = .ok (.i2l, 1) := by decide +kernel
theorem dL_law_1026 : decode code 1026 = .ok (.ldc2_w 75, 3) := by decide +kernel
theorem dL_law_1029 : decode code 1029 = .ok (.land, 1) := by decide +kernel
theorem dL_law_1030 : decode code 1030 = .ok (.lor, 1) := by decide +kernel
theorem dL_law_1031 : decode code 1031 = .ok (.aload_n 3, 1) := by decide +kernel
theorem dL_law_1032 : decode code 1032 = .ok (.invokestatic 129, 3) := by decide +kernel
theorem dL_law_1035 : decode code 1035 = .ok (.istore 5, 2) := by decide +kernel
theorem dL_law_1037 : decode code 1037 = .ok (.aload_n 2, 1) := by decide +kernel
theorem dL_law_1038 : decode code 1038 = .ok (.aload_n 0, 1) := by decide +kernel
theorem dL_law_1039 : decode code 1039 = .ok (.iload 4, 2) := by decide +kernel
theorem dL_law_1041 : decode code 1041 = .ok (.iconst 1, 1) := by decide +kernel
theorem dL_law_1042 : decode code 1042 = .ok (.iadd, 1) := by decide +kernel
theorem dL_law_1043 : decode code 1043 = .ok (.iaload, 1) := by decide +kernel
theorem dL_law_1044 : decode code 1044 = .ok (.aload_n 0, 1) := by decide +kernel
theorem dL_law_1045 : decode code 1045 = .ok (.iload 4, 2) := by decide +kernel
theorem dL_law_1047 : decode code 1047 = .ok (.iconst 2, 1) := by decide +kernel
theorem dL_law_1048 : decode code 1048 = .ok (.iadd, 1) := by decide +kernel
theorem dL_law_1049 : decode code 1049 = .ok (.iaload, 1) := by decide +kernel
theorem dL_law_1050 : decode code 1050 = .ok (.i2l, 1) := by decide +kernel
theorem dL_law_1051 : decode code 1051 = .ok (.bipush 32, 2) := by decide +kernel
theorem dL_law_1053 : decode code 1053 = .ok (.lshl, 1) := by decide +kernel
theorem dL_law_1054 : decode code 1054 = .ok (.aload_n 0, 1) := by decide +kernel
theorem dL_law_1055 : decode code 1055 = .ok (.iload 4, 2) := by decide +kernel
theorem dL_law_1057 : decode code 1057 = .ok (.iconst 3, 1) := by decide +kernel
theorem dL_law_1058 : decode code 1058 = .ok (.iadd, 1) := by decide +kernel
theorem dL_law_1059 : decode code 1059 = .ok (.iaload, 1) := by decide +kernel
theorem dL_law_1060 : decode code 1060 = .ok (.i2l, 1) := by decide +kernel
theorem dL_law_1061 : decode code 1061 = .ok (.ldc2_w 75, 3) := by decide +kernel
theorem dL_law_1064 : decode code 1064 = .ok (.land, 1) := by decide +kernel
theorem dL_law_1065 : decode code 1065 = .ok (.lor, 1) := by decide +kernel
theorem dL_law_1066 : decode code 1066 = .ok (.invokevirtual 132, 3) := by decide +kernel
theorem dL_law_1069 : decode code 1069 = .ok (.istore 6, 2) := by decide +kernel
theorem dL_law_1071 : decode code 1071 = .ok (.goto (290), 3) := by decide +kernel
theorem dL_law_1074 : decode code 1074 = .ok (.aload_n 1, 1) := by decide +kernel
theorem dL_law_1075 : decode code 1075 = .ok (.aload_n 0, 1) := by decide +kernel
