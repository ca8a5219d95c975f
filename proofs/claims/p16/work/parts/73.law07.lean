theorem dL_law_1062 : decode code 1062 = .ok (.aload_n 0, 1) := by decide +kernel
theorem dL_law_1063 : decode code 1063 = .ok (.iload 4, 2) := by decide +kernel
theorem dL_law_1065 : decode code 1065 = .ok (.iconst 3, 1) := by decide +kernel
theorem dL_law_1066 : decode code 1066 = .ok (.iadd, 1) := by decide +kernel
theorem dL_law_1067 : decode code 1067 = .ok (.iaload, 1) := by decide +kernel
theorem dL_law_1068 : decode code 1068 = .ok (.i2l, 1) := by decide +kernel
theorem dL_law_1069 : decode code 1069 = .ok (.bipush 32, 2) := by decide +kernel
theorem dL_law_1071 : decode code 1071 = .ok (.lshl, 1) := by decide +kernel
theorem dL_law_1072 : decode code 1072 = .ok (.aload_n 0, 1) := by decide +kernel
theorem dL_law_1073 : decode code 1073 = .ok (.iload 4, 2) := by decide +kernel
theorem dL_law_1075 : decode code 1075 = .ok (.iconst 4, 1) := by decide +kernel
theorem dL_law_1076 : decode code 1076 = .ok (.iadd, 1) := by decide +kernel
theorem dL_law_1077 : decode code 1077 = .ok (.iaload, 1) := by decide +kernel
theorem dL_law_1078 : decode code 1078 = .ok (.i2l, 1) := by decide +kernel
theorem dL_law_1079 : decode code 1079 = .ok (.ldc2_w 75, 3) := by decide +kernel
theorem dL_law_1082 : decode code 1082 = .ok (.land, 1) := by decide +kernel
theorem dL_law_1083 : decode code 1083 = .ok (.lor, 1) := by decide +kernel
theorem dL_law_1084 : decode code 1084 = .ok (.aload_n 0, 1) := by decide +kernel
theorem dL_law_1085 : decode code 1085 = .ok (.iload 4, 2) := by decide +kernel
theorem dL_law_1087 : decode code 1087 = .ok (.iconst 5, 1) := by decide +kernel
theorem dL_law_1088 : decode code 1088 = .ok (.iadd, 1) := by decide +kernel
theorem dL_law_1089 : decode code 1089 = .ok (.iaload, 1) := by decide +kernel
theorem dL_law_1090 : decode code 1090 = .ok (.i2l, 1) := by decide +kernel
theorem dL_law_1091 : decode code 1091 = .ok (.bipush 32, 2) := by decide +kernel
theorem dL_law_1093 : decode code 1093 = .ok (.lshl, 1) := by decide +kernel
theorem dL_law_1094 : decode code 1094 = .ok (.aload_n 0, 1) := by decide +kernel
theorem dL_law_1095 : decode code 1095 = .ok (.iload 4, 2) := by decide +kernel
theorem dL_law_1097 : decode code 1097 = .ok (.bipush 6, 2) := by decide +kernel
theorem dL_law_1099 : decode code 1099 = .ok (.iadd, 1) := by decide +kernel
theorem dL_law_1100 : decode code 1100 = .ok (.iaload, 1) := by decide +kernel
theorem dL_law_1101 : decode code 1101 = .ok (.i2l, 1) := by decide +kernel
theorem dL_law_1102 : decode code 1102 = .ok (.ldc2_w 75, 3) := by decide +kernel
theorem dL_law_1105 : decode code 1105 = .ok (.land, 1) := by decide +kernel
theorem dL_law_1106 : decode code 1106 = .ok (.lor, 1) := by decide +kernel
theorem dL_law_1107 : decode code 1107 = .ok (.aload_n 0, 1) := by decide +kernel
theorem dL_law_1108 : decode code 1108 = .ok (.iload 4, 2) := by decide +kernel
theorem dL_law_1110 : decode code 1110 = .ok (.bipush 7, 2) := by decide +kernel
theorem dL_law_1112 : decode code 1112 = .ok (.iadd, 1) := by decide +kernel
theorem dL_law_1113 : decode code 1113 = .ok (.iaload, 1) := by decide +kernel
theorem dL_law_1114 : decode code 1114 = .ok (.i2l, 1) := by decide +kernel
theorem dL_law_1115 : decode code 1115 = .ok (.bipush 32, 2) := by decide +kernel
theorem dL_law_1117 : decode code 1117 = .ok (.lshl, 1) := by decide +kernel
theorem dL_law_1118 : decode code 1118 = .ok (.aload_n 0, 1) := by decide +kernel
theorem dL_law_1119 : decode code 1119 = .ok (.iload 4, 2) := by decide +kernel
theorem dL_law_1121 : decode code 1121 = .ok (.bipush 8, 2) := by decide +kernel
theorem dL_law_1123 : decode code 1123 = .ok (.iadd, 1) := by decide +kernel
theorem dL_law_1124 : decode code 1124 = .ok (.iaload, 1) := by decide +kernel
theorem dL_law_1125 : decode code 1125 = .ok (.i2l, 1) := by decide +kernel
theorem dL_law_1126 : decode code 1126 = .ok (.ldc2_w 75, 3) := by decide +kernel
theorem dL_law_1129 : decode code 1129 = .ok (.land, 1) := by decide +kernel
theorem dL_law_1130 : decode code 1130 = .ok (.lor, 1) := by decide +kernel
theorem dL_law_1131 : decode code 1131 = .ok (.aload_n 0, 1) := by decide +kernel
theorem dL_law_1132 : decode code 1132 = .ok (.iload 4, 2) := by decide +kernel
theorem dL_law_1134 : decode code 1134 = .ok (.bipush 9, 2) := by decide +kernel
theorem dL_law_1136 : decode code 1136 = .ok (.iadd, 1) := by decide +kernel
theorem dL_law_1137 : decode code 1137 = .ok (.iaload, 1) := by decide +kernel
theorem dL_law_1138 : decode code 1138 = .ok (.i2l, 1) := by decide +kernel
theorem dL_law_1139 : decode code 1139 = .ok (.bipush 32, 2) := by decide +kernel
theorem dL_law_1141 : decode code 1141 = .ok (.lshl, 1) := by decide +kernel
theorem dL_law_1142 : decode code 1142 = .ok (.aload_n 0, 1) := by decide +kernel
theorem dL_law_1143 : decode code 1143 = .ok (.iload 4, 2) := by decide +kernel
theorem dL_law_1145 : decode code 1145 = .ok (.bipush 10, 2) := by decide +kernel
theorem dL_law_1147 : decode code 1147 = .ok (.iadd, 1) := by decide +kernel
theorem dL_law_1148 : decode code 1148 = .ok (.iaload, 1) := by decide +kernel
theorem dL_law_1149 : decode code 1149 = .ok (.i2l, 1) := by decide +kernel
theorem dL_law_1150 : decode code 1150 = .ok (.ldc2_w 75, 3) := by decide +kernel
theorem dL_law_1153 : decode code 1153 = .ok (.land, 1) := by decide +kernel
theorem dL_law_1154 : decode code 1154 = .ok (.lor, 1) := by decide +kernel
theorem dL_law_1155 : decode code 1155 = .ok (.aload_n 3, 1) := by decide +kernel
theorem dL_law_1156 : decode code 1156 = .ok (.invokestatic 130, 3) := by decide +kernel
theorem dL_law_1159 : decode code 1159 = .ok (.istore 5, 2) := by decide +kernel
theorem dL_law_1161 : decode code 1161 = .ok (.aload_n 2, 1) := by decide +kernel
theorem dL_law_1162 : decode code 1162 = .ok (.aload_n 0, 1) := by decide +kernel
theorem dL_law_1163 : decode code 1163 = .ok (.iload 4, 2) := by decide +kernel
theorem dL_law_1165 : decode code 1165 = .ok (.iconst 1, 1) := by decide +kernel
theorem dL_law_1166 : decode code 1166 = .ok (.iadd, 1) := by decide +kernel
theorem dL_law_1167 : decode code 1167 = .ok (.iaload, 1) := by decide +kernel
theorem dL_law_1168 : decode code 1168 = .ok (.i2l, 1) := by decide +kernel
theorem dL_law_1169 : decode code 1169 = .ok (.bipush 32, 2) := by decide +kernel
theorem dL_law_1171 : decode code 1171 = .ok (.lshl, 1) := by decide +kernel
theorem dL_law_1172 : decode code 1172 = .ok (.aload_n 0, 1) := by decide +kernel
theorem dL_law_1173 : decode code 1173 = .ok (.iload 4, 2) := by decide +kernel
theorem dL_law_1175 : decode code 1175 = .ok (.iconst 2, 1) := by decide +kernel
theorem dL_law_1176 : decode code 1176 = .ok (.iadd, 1) := by decide +kernel
theorem dL_law_1177 : decode code 1177 = .ok (.iaload, 1) := by decide +kernel
theorem dL_law_1178 : decode code 1178 = .ok (.i2l, 1) := by decide +kernel
theorem dL_law_1179 : decode code 1179 = .ok (.ldc2_w 75, 3) := by decide +kernel
theorem dL_law_1182 : decode code 1182 = .ok (.land, 1) := by decide +kernel
theorem dL_law_1183 : decode code 1183 = .ok (.lor, 1) := by decide +kernel
theorem dL_law_1184 : decode code 1184 = .ok (.aload_n 0, 1) := by decide +kernel
theorem dL_law_1185 : decode code 1185 = .ok (.iload 4, 2) := by decide +kernel
theorem dL_law_1187 : decode code 1187 = .ok (.iconst 3, 1) := by decide +kernel
theorem dL_law_1188 : decode code 1188 = .ok (.iadd, 1) := by decide +kernel
theorem dL_law_1189 : decode code 1189 = .ok (.iaload, 1) := by decide +kernel
theorem dL_law_1190 : decode code 1190 = .ok (.i2l, 1) := by decide +kernel
theorem dL_law_1191 : decode code 1191 = .ok (.bipush 32, 2) := by decide +kernel
theorem dL_law_1193 : decode code 1193 = .ok (.lshl, 1) := by decide +kernel
theorem dL_law_1194 : decode code 1194 = .ok (.aload_n 0, 1) := by decide +kernel
theorem dL_law_1195 : decode code 1195 = .ok (.iload 4, 2) := by decide +kernel
theorem dL_law_1197 : decode code 1197 = .ok (.iconst 4, 1) := by decide +kernel
