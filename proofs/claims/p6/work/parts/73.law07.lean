theorem dL_law_1076 : decode code 1076 = .ok (.iload 4, 2) := by decide +kernel
theorem dL_law_1078 : decode code 1078 = .ok (.iconst 1, 1) := by decide +kernel
theorem dL_law_1079 : decode code 1079 = .ok (.iadd, 1) := by decide +kernel
theorem dL_law_1080 : decode code 1080 = .ok (.iaload, 1) := by decide +kernel
theorem dL_law_1081 : decode code 1081 = .ok (.i2l, 1) := by decide +kernel
theorem dL_law_1082 : decode code 1082 = .ok (.bipush 32, 2) := by decide +kernel
theorem dL_law_1084 : decode code 1084 = .ok (.lshl, 1) := by decide +kernel
theorem dL_law_1085 : decode code 1085 = .ok (.aload_n 0, 1) := by decide +kernel
theorem dL_law_1086 : decode code 1086 = .ok (.iload 4, 2) := by decide +kernel
theorem dL_law_1088 : decode code 1088 = .ok (.iconst 2, 1) := by decide +kernel
theorem dL_law_1089 : decode code 1089 = .ok (.iadd, 1) := by decide +kernel
theorem dL_law_1090 : decode code 1090 = .ok (.iaload, 1) := by decide +kernel
theorem dL_law_1091 : decode code 1091 = .ok (.i2l, 1) := by decide +kernel
theorem dL_law_1092 : decode code 1092 = .ok (.ldc2_w 75, 3) := by decide +kernel
theorem dL_law_1095 : decode code 1095 = .ok (.land, 1) := by decide +kernel
theorem dL_law_1096 : decode code 1096 = .ok (.lor, 1) := by decide +kernel
theorem dL_law_1097 : decode code 1097 = .ok (.aload_n 0, 1) := by decide +kernel
theorem dL_law_1098 : decode code 1098 = .ok (.iload 4, 2) := by decide +kernel
theorem dL_law_1100 : decode code 1100 = .ok (.iconst 3, 1) := by decide +kernel
theorem dL_law_1101 : decode code 1101 = .ok (.iadd, 1) := by decide +kernel
theorem dL_law_1102 : decode code 1102 = .ok (.iaload, 1) := by decide +kernel
theorem dL_law_1103 : decode code 1103 = .ok (.i2l, 1) := by decide +kernel
theorem dL_law_1104 : decode code 1104 = .ok (.bipush 32, 2) := by decide +kernel
theorem dL_law_1106 : decode code 1106 = .ok (.lshl, 1) := by decide +kernel
theorem dL_law_1107 : decode code 1107 = .ok (.aload_n 0, 1) := by decide +kernel
theorem dL_law_1108 : decode code 1108 = .ok (.iload 4, 2) := by decide +kernel
theorem dL_law_1110 : decode code 1110 = .ok (.iconst 4, 1) := by decide +kernel
theorem dL_law_1111 : decode code 1111 = .ok (.iadd, 1) := by decide +kernel
theorem dL_law_1112 : decode code 1112 = .ok (.iaload, 1) := by decide +kernel
theorem dL_law_1113 : decode code 1113 = .ok (.i2l, 1) := by decide +kernel
theorem dL_law_1114 : decode code 1114 = .ok (.ldc2_w 75, 3) := by decide +kernel
theorem dL_law_1117 : decode code 1117 = .ok (.land, 1) := by decide +kernel
theorem dL_law_1118 : decode code 1118 = .ok (.lor, 1) := by decide +kernel
theorem dL_law_1119 : decode code 1119 = .ok (.aload_n 0, 1) := by decide +kernel
theorem dL_law_1120 : decode code 1120 = .ok (.iload 4, 2) := by decide +kernel
theorem dL_law_1122 : decode code 1122 = .ok (.iconst 5, 1) := by decide +kernel
theorem dL_law_1123 : decode code 1123 = .ok (.iadd, 1) := by decide +kernel
theorem dL_law_1124 : decode code 1124 = .ok (.iaload, 1) := by decide +kernel
theorem dL_law_1125 : decode code 1125 = .ok (.i2l, 1) := by decide +kernel
theorem dL_law_1126 : decode code 1126 = .ok (.bipush 32, 2) := by decide +kernel
theorem dL_law_1128 : decode code 1128 = .ok (.lshl, 1) := by decide +kernel
theorem dL_law_1129 : decode code 1129 = .ok (.aload_n 0, 1) := by decide +kernel
theorem dL_law_1130 : decode code 1130 = .ok (.iload 4, 2) := by decide +kernel
theorem dL_law_1132 : decode code 1132 = .ok (.bipush 6, 2) := by decide +kernel
theorem dL_law_1134 : decode code 1134 = .ok (.iadd, 1) := by decide +kernel
theorem dL_law_1135 : decode code 1135 = .ok (.iaload, 1) := by decide +kernel
theorem dL_law_1136 : decode code 1136 = .ok (.i2l, 1) := by decide +kernel
theorem dL_law_1137 : decode code 1137 = .ok (.ldc2_w 75, 3) := by decide +kernel
theorem dL_law_1140 : decode code 1140 = .ok (.land, 1) := by decide +kernel
theorem dL_law_1141 : decode code 1141 = .ok (.lor, 1) := by decide +kernel
theorem dL_law_1142 : decode code 1142 = .ok (.aload_n 0, 1) := by decide +kernel
theorem dL_law_1143 : decode code 1143 = .ok (.iload 4, 2) := by decide +kernel
theorem dL_law_1145 : decode code 1145 = .ok (.bipush 7, 2) := by decide +kernel
theorem dL_law_1147 : decode code 1147 = .ok (.iadd, 1) := by decide +kernel
theorem dL_law_1148 : decode code 1148 = .ok (.iaload, 1) := by decide +kernel
theorem dL_law_1149 : decode code 1149 = .ok (.i2l, 1) := by decide +kernel
theorem dL_law_1150 : decode code 1150 = .ok (.bipush 32, 2) := by decide +kernel
theorem dL_law_1152 : decode code 1152 = .ok (.lshl, 1) := by decide +kernel
theorem dL_law_1153 : decode code 1153 = .ok (.aload_n 0, 1) := by decide +kernel
theorem dL_law_1154 : decode code 1154 = .ok (.iload 4, 2) := by decide +kernel
theorem dL_law_1156 : decode code 1156 = .ok (.bipush 8, 2) := by decide +kernel
theorem dL_law_1158 : decode code 1158 = .ok (.iadd, 1) := by decide +kernel
theorem dL_law_1159 : decode code 1159 = .ok (.iaload, 1) := by decide +kernel
theorem dL_law_1160 : decode code 1160 = .ok (.i2l, 1) := by decide +kernel
theorem dL_law_1161 : decode code 1161 = .ok (.ldc2_w 75, 3) := by decide +kernel
theorem dL_law_1164 : decode code 1164 = .ok (.land, 1) := by decide +kernel
theorem dL_law_1165 : decode code 1165 = .ok (.lor, 1) := by decide +kernel
theorem dL_law_1166 : decode code 1166 = .ok (.aload_n 0, 1) := by decide +kernel
theorem dL_law_1167 : decode code 1167 = .ok (.iload 4, 2) := by decide +kernel
theorem dL_law_1169 : decode code 1169 = .ok (.bipush 9, 2) := by decide +kernel
theorem dL_law_1171 : decode code 1171 = .ok (.iadd, 1) := by decide +kernel
theorem dL_law_1172 : decode code 1172 = .ok (.iaload, 1) := by decide +kernel
theorem dL_law_1173 : decode code 1173 = .ok (.i2l, 1) := by decide +kernel
theorem dL_law_1174 : decode code 1174 = .ok (.bipush 32, 2) := by decide +kernel
theorem dL_law_1176 : decode code 1176 = .ok (.lshl, 1) := by decide +kernel
theorem dL_law_1177 : decode code 1177 = .ok (.aload_n 0, 1) := by decide +kernel
theorem dL_law_1178 : decode code 1178 = .ok (.iload 4, 2) := by decide +kernel
theorem dL_law_1180 : decode code 1180 = .ok (.bipush 10, 2) := by decide +kernel
theorem dL_law_1182 : decode code 1182 = .ok (.iadd, 1) := by decide +kernel
theorem dL_law_1183 : decode code 1183 = .ok (.iaload, 1) := by decide +kernel
theorem dL_law_1184 : decode code 1184 = .ok (.i2l, 1) := by decide +kernel
theorem dL_law_1185 : decode code 1185 = .ok (.ldc2_w 75, 3) := by decide +kernel
theorem dL_law_1188 : decode code 1188 = .ok (.land, 1) := by decide +kernel
theorem dL_law_1189 : decode code 1189 = .ok (.lor, 1) := by decide +kernel
theorem dL_law_1190 : decode code 1190 = .ok (.aload_n 3, 1) := by decide +kernel
theorem dL_law_1191 : decode code 1191 = .ok (.invokestatic 133, 3) := by decide +kernel
theorem dL_law_1194 : decode code 1194 = .ok (.istore 5, 2) := by decide +kernel
theorem dL_law_1196 : decode code 1196 = .ok (.aload_n 2, 1) := by decide +kernel
theorem dL_law_1197 : decode code 1197 = .ok (.aload_n 0, 1) := by decide +kernel
theorem dL_law_1198 : decode code 1198 = .ok (.iload 4, 2) := by decide +kernel
theorem dL_law_1200 : decode code 1200 = .ok (.iconst 1, 1) := by decide +kernel
theorem dL_law_1201 : decode code 1201 = .ok (.iadd, 1) := by decide +kernel
theorem dL_law_1202 : decode code 1202 = .ok (.iaload, 1) := by decide +kernel
theorem dL_law_1203 : decode code 1203 = .ok (.i2l, 1) := by decide +kernel
theorem dL_law_1204 : decode code 1204 = .ok (.bipush 32, 2) := by decide +kernel
theorem dL_law_1206 : decode code 1206 = .ok (.lshl, 1) := by decide +kernel
theorem dL_law_1207 : decode code 1207 = .ok (.aload_n 0, 1) := by decide +kernel
theorem dL_law_1208 : decode code 1208 = .ok (.iload 4, 2) := by decide +kernel
theorem dL_law_1210 : decode code 1210 = .ok (.iconst 2, 1) := by decide +kernel
theorem dL_law_1211 : decode code 1211 = .ok (.iadd, 1) := by decide +kernel
