theorem dL_law_1071 : decode code 1071 = .ok (.iconst 2, 1) := by decide +kernel
theorem dL_law_1072 : decode code 1072 = .ok (.iadd, 1) := by decide +kernel
theorem dL_law_1073 : decode code 1073 = .ok (.iaload, 1) := by decide +kernel
theorem dL_law_1074 : decode code 1074 = .ok (.aload_n 0, 1) := by decide +kernel
theorem dL_law_1075 : decode code 1075 = .ok (.iload 4, 2) := by decide +kernel
theorem dL_law_1077 : decode code 1077 = .ok (.iconst 3, 1) := by decide +kernel
theorem dL_law_1078 : decode code 1078 = .ok (.iadd, 1) := by decide +kernel
theorem dL_law_1079 : decode code 1079 = .ok (.iaload, 1) := by decide +kernel
theorem dL_law_1080 : decode code 1080 = .ok (.i2l, 1) := by decide +kernel
theorem dL_law_1081 : decode code 1081 = .ok (.bipush 32, 2) := by decide +kernel
theorem dL_law_1083 : decode code 1083 = .ok (.lshl, 1) := by decide +kernel
theorem dL_law_1084 : decode code 1084 = .ok (.aload_n 0, 1) := by decide +kernel
theorem dL_law_1085 : decode code 1085 = .ok (.iload 4, 2) := by decide +kernel
theorem dL_law_1087 : decode code 1087 = .ok (.iconst 4, 1) := by decide +kernel
theorem dL_law_1088 : decode code 1088 = .ok (.iadd, 1) := by decide +kernel
theorem dL_law_1089 : decode code 1089 = .ok (.iaload, 1) := by decide +kernel
theorem dL_law_1090 : decode code 1090 = .ok (.i2l, 1) := by decide +kernel
theorem dL_law_1091 : decode code 1091 = .ok (.ldc2_w 75, 3) := by decide +kernel
theorem dL_law_1094 : decode code 1094 = .ok (.land, 1) := by decide +kernel
theorem dL_law_1095 : decode code 1095 = .ok (.lor, 1) := by decide +kernel
theorem dL_law_1096 : decode code 1096 = .ok (.aload_n 3, 1) := by decide +kernel
theorem dL_law_1097 : decode code 1097 = .ok (.invokestatic 122, 3) := by decide +kernel
theorem dL_law_1100 : decode code 1100 = .ok (.istore 5, 2) := by decide +kernel
theorem dL_law_1102 : decode code 1102 = .ok (.aload_n 2, 1) := by decide +kernel
theorem dL_law_1103 : decode code 1103 = .ok (.aload_n 0, 1) := by decide +kernel
theorem dL_law_1104 : decode code 1104 = .ok (.iload 4, 2) := by decide +kernel
theorem dL_law_1106 : decode code 1106 = .ok (.iconst 1, 1) := by decide +kernel
theorem dL_law_1107 : decode code 1107 = .ok (.iadd, 1) := by decide +kernel
theorem dL_law_1108 : decode code 1108 = .ok (.iaload, 1) := by decide +kernel
theorem dL_law_1109 : decode code 1109 = .ok (.aload_n 0, 1) := by decide +kernel
theorem dL_law_1110 : decode code 1110 = .ok (.iload 4, 2) := by decide +kernel
theorem dL_law_1112 : decode code 1112 = .ok (.iconst 2, 1) := by decide +kernel
theorem dL_law_1113 : decode code 1113 = .ok (.iadd, 1) := by decide +kernel
theorem dL_law_1114 : decode code 1114 = .ok (.iaload, 1) := by decide +kernel
theorem dL_law_1115 : decode code 1115 = .ok (.aload_n 0, 1) := by decide +kernel
theorem dL_law_1116 : decode code 1116 = .ok (.iload 4, 2) := by decide +kernel
theorem dL_law_1118 : decode code 1118 = .ok (.iconst 3, 1) := by decide +kernel
theorem dL_law_1119 : decode code 1119 = .ok (.iadd, 1) := by decide +kernel
theorem dL_law_1120 : decode code 1120 = .ok (.iaload, 1) := by decide +kernel
theorem dL_law_1121 : decode code 1121 = .ok (.i2l, 1) := by decide +kernel
theorem dL_law_1122 : decode code 1122 = .ok (.bipush 32, 2) := by decide +kernel
theorem dL_law_1124 : decode code 1124 = .ok (.lshl, 1) := by decide +kernel
theorem dL_law_1125 : decode code 1125 = .ok (.aload_n 0, 1) := by decide +kernel
theorem dL_law_1126 : decode code 1126 = .ok (.iload 4, 2) := by decide +kernel
theorem dL_law_1128 : decode code 1128 = .ok (.iconst 4, 1) := by decide +kernel
theorem dL_law_1129 : decode code 1129 = .ok (.iadd, 1) := by decide +kernel
theorem dL_law_1130 : decode code 1130 = .ok (.iaload, 1) := by decide +kernel
theorem dL_law_1131 : decode code 1131 = .ok (.i2l, 1) := by decide +kernel
theorem dL_law_1132 : decode code 1132 = .ok (.ldc2_w 75, 3) := by decide +kernel
theorem dL_law_1135 : decode code 1135 = .ok (.land, 1) := by decide +kernel
theorem dL_law_1136 : decode code 1136 = .ok (.lor, 1) := by decide +kernel
theorem dL_law_1137 : decode code 1137 = .ok (.invokevirtual 125, 3) := by decide +kernel
theorem dL_law_1140 : decode code 1140 = .ok (.istore 6, 2) := by decide +kernel
theorem dL_law_1142 : decode code 1142 = .ok (.aload_n 2, 1) := by decide +kernel
theorem dL_law_1143 : decode code 1143 = .ok (.invokevirtual 81, 3) := by decide +kernel
theorem dL_law_1146 : decode code 1146 = .ok (.iload 5, 2) := by decide +kernel
theorem dL_law_1148 : decode code 1148 = .ok (.if_icmp .eq (5), 3) := by decide +kernel
theorem dL_law_1153 : decode code 1153 = .ok (.iload 5, 2) := by decide +kernel
theorem dL_law_1155 : decode code 1155 = .ok (.ifCond .ne (22), 3) := by decide +kernel
theorem dL_law_1177 : decode code 1177 = .ok (.goto (528), 3) := by decide +kernel
theorem dL_law_1180 : decode code 1180 = .ok (.aload_n 1, 1) := by decide +kernel
theorem dL_law_1181 : decode code 1181 = .ok (.aload_n 0, 1) := by decide +kernel
theorem dL_law_1182 : decode code 1182 = .ok (.iload 4, 2) := by decide +kernel
theorem dL_law_1184 : decode code 1184 = .ok (.iconst 1, 1) := by decide +kernel
theorem dL_law_1185 : decode code 1185 = .ok (.iadd, 1) := by decide +kernel
theorem dL_law_1186 : decode code 1186 = .ok (.iaload, 1) := by decide +kernel
theorem dL_law_1187 : decode code 1187 = .ok (.aload_n 0, 1) := by decide +kernel
theorem dL_law_1188 : decode code 1188 = .ok (.iload 4, 2) := by decide +kernel
theorem dL_law_1190 : decode code 1190 = .ok (.iconst 2, 1) := by decide +kernel
theorem dL_law_1191 : decode code 1191 = .ok (.iadd, 1) := by decide +kernel
theorem dL_law_1192 : decode code 1192 = .ok (.iaload, 1) := by decide +kernel
theorem dL_law_1193 : decode code 1193 = .ok (.aload_n 3, 1) := by decide +kernel
theorem dL_law_1194 : decode code 1194 = .ok (.invokestatic 126, 3) := by decide +kernel
theorem dL_law_1197 : decode code 1197 = .ok (.istore 5, 2) := by decide +kernel
theorem dL_law_1199 : decode code 1199 = .ok (.aload_n 2, 1) := by decide +kernel
theorem dL_law_1200 : decode code 1200 = .ok (.aload_n 0, 1) := by decide +kernel
theorem dL_law_1201 : decode code 1201 = .ok (.iload 4, 2) := by decide +kernel
theorem dL_law_1203 : decode code 1203 = .ok (.iconst 1, 1) := by decide +kernel
theorem dL_law_1204 : decode code 1204 = .ok (.iadd, 1) := by decide +kernel
theorem dL_law_1205 : decode code 1205 = .ok (.iaload, 1) := by decide +kernel
theorem dL_law_1206 : decode code 1206 = .ok (.aload_n 0, 1) := by decide +kernel
theorem dL_law_1207 : decode code 1207 = .ok (.iload 4, 2) := by decide +kernel
theorem dL_law_1209 : decode code 1209 = .ok (.iconst 2, 1) := by decide +kernel
theorem dL_law_1210 : decode code 1210 = .ok (.iadd, 1) := by decide +kernel
theorem dL_law_1211 : decode code 1211 = .ok (.iaload, 1) := by decide +kernel
theorem dL_law_1212 : decode code 1212 = .ok (.invokevirtual 128, 3) := by decide +kernel
theorem dL_law_1215 : decode code 1215 = .ok (.istore 6, 2) := by decide +kernel
theorem dL_law_1217 : decode code 1217 = .ok (.aload_n 2, 1) := by decide +kernel
theorem dL_law_1218 : decode code 1218 = .ok (.invokevirtual 81, 3) := by decide +kernel
theorem dL_law_1221 : decode code 1221 = .ok (.iload 5, 2) := by decide +kernel
theorem dL_law_1223 : decode code 1223 = .ok (.if_icmp .eq (5), 3) := by decide +kernel
theorem dL_law_1228 : decode code 1228 = .ok (.iload 5, 2) := by decide +kernel
theorem dL_law_1230 : decode code 1230 = .ok (.ifCond .ne (15), 3) := by decide +kernel
theorem dL_law_1245 : decode code 1245 = .ok (.goto (460), 3) := by decide +kernel
theorem dL_law_1248 : decode code 1248 = .ok (.aload_n 1, 1) := by decide +kernel
theorem dL_law_1249 : decode code 1249 = .ok (.aload_n 0, 1) := by decide +kernel
theorem dL_law_1250 : decode code 1250 = .ok (.iload 4, 2) := by decide +kernel
theorem dL_law_1252 : decode code 1252 = .ok (.iconst 1, 1) := by decide +kernel
theorem dL_law_1253 : decode code 1253 = .ok (.iadd, 1) := by decide +kernel
theorem dL_law_1254 : decode code 1254 = .ok (.iaload, 1) := by decide +kernel
