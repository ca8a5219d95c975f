theorem dL_law_1073 : decode code 1073 = .ok (.iaload, 1) := by decide +kernel
theorem dL_law_1074 : decode code 1074 = .ok (.i2l, 1) := by decide +kernel
theorem dL_law_1075 : decode code 1075 = .ok (.bipush 32, 2) := by decide +kernel
theorem dL_law_1077 : decode code 1077 = .ok (.lshl, 1) := by decide +kernel
theorem dL_law_1078 : decode code 1078 = .ok (.aload_n 0, 1) := by decide +kernel
theorem dL_law_1079 : decode code 1079 = .ok (.iload 4, 2) := by decide +kernel
theorem dL_law_1081 : decode code 1081 = .ok (.iconst 2, 1) := by decide +kernel
theorem dL_law_1082 : decode code 1082 = .ok (.iadd, 1) := by decide +kernel
theorem dL_law_1083 : decode code 1083 = .ok (.iaload, 1) := by decide +kernel
theorem dL_law_1084 : decode code 1084 = .ok (.i2l, 1) := by decide +kernel
theorem dL_law_1085 : decode code 1085 = .ok (.ldc2_w 75, 3) := by decide +kernel
theorem dL_law_1088 : decode code 1088 = .ok (.land, 1) := by decide +kernel
theorem dL_law_1089 : decode code 1089 = .ok (.lor, 1) := by decide +kernel
theorem dL_law_1090 : decode code 1090 = .ok (.aload_n 0, 1) := by decide +kernel
theorem dL_law_1091 : decode code 1091 = .ok (.iload 4, 2) := by decide +kernel
theorem dL_law_1093 : decode code 1093 = .ok (.iconst 3, 1) := by decide +kernel
theorem dL_law_1094 : decode code 1094 = .ok (.iadd, 1) := by decide +kernel
theorem dL_law_1095 : decode code 1095 = .ok (.iaload, 1) := by decide +kernel
theorem dL_law_1096 : decode code 1096 = .ok (.i2l, 1) := by decide +kernel
theorem dL_law_1097 : decode code 1097 = .ok (.bipush 32, 2) := by decide +kernel
theorem dL_law_1099 : decode code 1099 = .ok (.lshl, 1) := by decide +kernel
theorem dL_law_1100 : decode code 1100 = .ok (.aload_n 0, 1) := by decide +kernel
theorem dL_law_1101 : decode code 1101 = .ok (.iload 4, 2) := by decide +kernel
theorem dL_law_1103 : decode code 1103 = .ok (.iconst 4, 1) := by decide +kernel
theorem dL_law_1104 : decode code 1104 = .ok (.iadd, 1) := by decide +kernel
theorem dL_law_1105 : decode code 1105 = .ok (.iaload, 1) := by decide +kernel
theorem dL_law_1106 : decode code 1106 = .ok (.i2l, 1) := by decide +kernel
theorem dL_law_1107 : decode code 1107 = .ok (.ldc2_w 75, 3) := by decide +kernel
theorem dL_law_1110 : decode code 1110 = .ok (.land, 1) := by decide +kernel
theorem dL_law_1111 : decode code 1111 = .ok (.lor, 1) := by decide +kernel
theorem dL_law_1112 : decode code 1112 = .ok (.aload_n 0, 1) := by decide +kernel
theorem dL_law_1113 : decode code 1113 = .ok (.iload 4, 2) := by decide +kernel
theorem dL_law_1115 : decode code 1115 = .ok (.iconst 5, 1) := by decide +kernel
theorem dL_law_1116 : decode code 1116 = .ok (.iadd, 1) := by decide +kernel
theorem dL_law_1117 : decode code 1117 = .ok (.iaload, 1) := by decide +kernel
theorem dL_law_1118 : decode code 1118 = .ok (.i2l, 1) := by decide +kernel
theorem dL_law_1119 : decode code 1119 = .ok (.bipush 32, 2) := by decide +kernel
theorem dL_law_1121 : decode code 1121 = .ok (.lshl, 1) := by decide +kernel
theorem dL_law_1122 : decode code 1122 = .ok (.aload_n 0, 1) := by decide +kernel
theorem dL_law_1123 : decode code 1123 = .ok (.iload 4, 2) := by decide +kernel
theorem dL_law_1125 : decode code 1125 = .ok (.bipush 6, 2) := by decide +kernel
theorem dL_law_1127 : decode code 1127 = .ok (.iadd, 1) := by decide +kernel
theorem dL_law_1128 : decode code 1128 = .ok (.iaload, 1) := by decide +kernel
theorem dL_law_1129 : decode code 1129 = .ok (.i2l, 1) := by decide +kernel
theorem dL_law_1130 : decode code 1130 = .ok (.ldc2_w 75, 3) := by decide +kernel
theorem dL_law_1133 : decode code 1133 = .ok (.land, 1) := by decide +kernel
theorem dL_law_1134 : decode code 1134 = .ok (.lor, 1) := by decide +kernel
theorem dL_law_1135 : decode code 1135 = .ok (.aload_n 0, 1) := by decide +kernel
theorem dL_law_1136 : decode code 1136 = .ok (.iload 4, 2) := by decide +kernel
theorem dL_law_1138 : decode code 1138 = .ok (.bipush 7, 2) := by decide +kernel
theorem dL_law_1140 : decode code 1140 = .ok (.iadd, 1) := by decide +kernel
theorem dL_law_1141 : decode code 1141 = .ok (.iaload, 1) := by decide +kernel
theorem dL_law_1142 : decode code 1142 = .ok (.i2l, 1) := by decide +kernel
theorem dL_law_1143 : decode code 1143 = .ok (.bipush 32, 2) := by decide +kernel
theorem dL_law_1145 : decode code 1145 = .ok (.lshl, 1) := by decide +kernel
theorem dL_law_1146 : decode code 1146 = .ok (.aload_n 0, 1) := by decide +kernel
theorem dL_law_1147 : decode code 1147 = .ok (.iload 4, 2) := by decide +kernel
theorem dL_law_1149 : decode code 1149 = .ok (.bipush 8, 2) := by decide +kernel
theorem dL_law_1151 : decode code 1151 = .ok (.iadd, 1) := by decide +kernel
theorem dL_law_1152 : decode code 1152 = .ok (.iaload, 1) := by decide +kernel
theorem dL_law_1153 : decode code 1153 = .ok (.i2l, 1) := by decide +kernel
theorem dL_law_1154 : decode code 1154 = .ok (.ldc2_w 75, 3) := by decide +kernel
theorem dL_law_1157 : decode code 1157 = .ok (.land, 1) := by decide +kernel
theorem dL_law_1158 : decode code 1158 = .ok (.lor, 1) := by decide +kernel
theorem dL_law_1159 : decode code 1159 = .ok (.aload_n 0, 1) := by decide +kernel
theorem dL_law_1160 : decode code 1160 = .ok (.iload 4, 2) := by decide +kernel
theorem dL_law_1162 : decode code 1162 = .ok (.bipush 9, 2) := by decide +kernel
theorem dL_law_1164 : decode code 1164 = .ok (.iadd, 1) := by decide +kernel
theorem dL_law_1165 : decode code 1165 = .ok (.iaload, 1) := by decide +kernel
theorem dL_law_1166 : decode code 1166 = .ok (.i2l, 1) := by decide +kernel
theorem dL_law_1167 : decode code 1167 = .ok (.bipush 32, 2) := by decide +kernel
theorem dL_law_1169 : decode code 1169 = .ok (.lshl, 1) := by decide +kernel
theorem dL_law_1170 : decode code 1170 = .ok (.aload_n 0, 1) := by decide +kernel
theorem dL_law_1171 : decode code 1171 = .ok (.iload 4, 2) := by decide +kernel
theorem dL_law_1173 : decode code 1173 = .ok (.bipush 10, 2) := by decide +kernel
theorem dL_law_1175 : decode code 1175 = .ok (.iadd, 1) := by decide +kernel
theorem dL_law_1176 : decode code 1176 = .ok (.iaload, 1) := by decide +kernel
theorem dL_law_1177 : decode code 1177 = .ok (.i2l, 1) := by decide +kernel
theorem dL_law_1178 : decode code 1178 = .ok (.ldc2_w 75, 3) := by decide +kernel
theorem dL_law_1181 : decode code 1181 = .ok (.land, 1) := by decide +kernel
theorem dL_law_1182 : decode code 1182 = .ok (.lor, 1) := by decide +kernel
theorem dL_law_1183 : decode code 1183 = .ok (.aload_n 3, 1) := by decide +kernel
theorem dL_law_1184 : decode code 1184 = .ok (.invokestatic 133, 3) := by decide +kernel
theorem dL_law_1187 : decode code 1187 = .ok (.istore 5, 2) := by decide +kernel
theorem dL_law_1189 : decode code 1189 = .ok (.aload_n 2, 1) := by decide +kernel
theorem dL_law_1190 : decode code 1190 = .ok (.aload_n 0, 1) := by decide +kernel
theorem dL_law_1191 : decode code 1191 = .ok (.iload 4, 2) := by decide +kernel
theorem dL_law_1193 : decode code 1193 = .ok (.iconst 1, 1) := by decide +kernel
theorem dL_law_1194 : decode code 1194 = .ok (.iadd, 1) := by decide +kernel
theorem dL_law_1195 : decode code 1195 = .ok (.iaload, 1) := by decide +kernel
theorem dL_law_1196 : decode code 1196 = .ok (.i2l, 1) := by decide +kernel
theorem dL_law_1197 : decode code 1197 = .ok (.bipush 32, 2) := by decide +kernel
theorem dL_law_1199 : decode code 1199 = .ok (.lshl, 1) := by decide +kernel
theorem dL_law_1200 : decode code 1200 = .ok (.aload_n 0, 1) := by decide +kernel
theorem dL_law_1201 : decode code 1201 = .ok (.iload 4, 2) := by decide +kernel
theorem dL_law_1203 : decode code 1203 = .ok (.iconst 2, 1) := by decide +kernel
theorem dL_law_1204 : decode code 1204 = .ok (.iadd, 1) := by decide +kernel
theorem dL_law_1205 : decode code 1205 = .ok (.iaload, 1) := by decide +kernel
theorem dL_law_1206 : decode code 1206 = .ok (.i2l, 1) := by decide +kernel
theorem dL_law_1207 : decode code 1207 = .ok (.ldc2_w 75, 3) := by decide +kernel
