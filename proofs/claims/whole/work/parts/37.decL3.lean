theorem d_Lw_law_1018 : decode code 1018 = .ok (.ifCond .ne (15), 3) := by decide +kernel
theorem d_Lw_law_1021 : decode code 1021 = .ok (.aload_n 3, 1) := by decide +kernel
theorem d_Lw_law_1022 : decode code 1022 = .ok (.iconst 0, 1) := by decide +kernel
theorem d_Lw_law_1023 : decode code 1023 = .ok (.laload, 1) := by decide +kernel
theorem d_Lw_law_1024 : decode code 1024 = .ok (.iload 6, 2) := by decide +kernel
theorem d_Lw_law_1026 : decode code 1026 = .ok (.i2l, 1) := by decide +kernel
theorem d_Lw_law_1027 : decode code 1027 = .ok (.lcmp, 1) := by decide +kernel
theorem d_Lw_law_1028 : decode code 1028 = .ok (.ifCond .eq (5), 3) := by decide +kernel
theorem d_Lw_law_1031 : decode code 1031 = .ok (.iconst 0, 1) := by decide +kernel
theorem d_Lw_law_1032 : decode code 1032 = .ok (.ireturn, 1) := by decide +kernel
theorem d_Lw_law_1033 : decode code 1033 = .ok (.goto (283), 3) := by decide +kernel
theorem d_Lw_law_1036 : decode code 1036 = .ok (.aload_n 1, 1) := by decide +kernel
theorem d_Lw_law_1037 : decode code 1037 = .ok (.aload_n 0, 1) := by decide +kernel
theorem d_Lw_law_1038 : decode code 1038 = .ok (.iload 4, 2) := by decide +kernel
theorem d_Lw_law_1040 : decode code 1040 = .ok (.iconst 1, 1) := by decide +kernel
theorem d_Lw_law_1041 : decode code 1041 = .ok (.iadd, 1) := by decide +kernel
theorem d_Lw_law_1042 : decode code 1042 = .ok (.iaload, 1) := by decide +kernel
theorem d_Lw_law_1043 : decode code 1043 = .ok (.aload_n 3, 1) := by decide +kernel
theorem d_Lw_law_1044 : decode code 1044 = .ok (.invokestatic 142, 3) := by decide +kernel
theorem d_Lw_law_1047 : decode code 1047 = .ok (.istore 5, 2) := by decide +kernel
theorem d_Lw_law_1049 : decode code 1049 = .ok (.aload_n 2, 1) := by decide +kernel
theorem d_Lw_law_1050 : decode code 1050 = .ok (.aload_n 0, 1) := by decide +kernel
theorem d_Lw_law_1051 : decode code 1051 = .ok (.iload 4, 2) := by decide +kernel
theorem d_Lw_law_1053 : decode code 1053 = .ok (.iconst 1, 1) := by decide +kernel
theorem d_Lw_law_1054 : decode code 1054 = .ok (.iadd, 1) := by decide +kernel
theorem d_Lw_law_1055 : decode code 1055 = .ok (.iaload, 1) := by decide +kernel
theorem d_Lw_law_1056 : decode code 1056 = .ok (.invokevirtual 144, 3) := by decide +kernel
theorem d_Lw_law_1059 : decode code 1059 = .ok (.istore 6, 2) := by decide +kernel
theorem d_Lw_law_1061 : decode code 1061 = .ok (.aload_n 2, 1) := by decide +kernel
theorem d_Lw_law_1062 : decode code 1062 = .ok (.invokevirtual 91, 3) := by decide +kernel
theorem d_Lw_law_1065 : decode code 1065 = .ok (.iload 5, 2) := by decide +kernel
theorem d_Lw_law_1067 : decode code 1067 = .ok (.if_icmp .eq (5), 3) := by decide +kernel
theorem d_Lw_law_1070 : decode code 1070 = .ok (.iconst 0, 1) := by decide +kernel
theorem d_Lw_law_1071 : decode code 1071 = .ok (.ireturn, 1) := by decide +kernel
theorem d_Lw_law_1072 : decode code 1072 = .ok (.iload 5, 2) := by decide +kernel
theorem d_Lw_law_1074 : decode code 1074 = .ok (.ifCond .ne (15), 3) := by decide +kernel
theorem d_Lw_law_1077 : decode code 1077 = .ok (.aload_n 3, 1) := by decide +kernel
theorem d_Lw_law_1078 : decode code 1078 = .ok (.iconst 0, 1) := by decide +kernel
theorem d_Lw_law_1079 : decode code 1079 = .ok (.laload, 1) := by decide +kernel
theorem d_Lw_law_1080 : decode code 1080 = .ok (.iload 6, 2) := by decide +kernel
theorem d_Lw_law_1082 : decode code 1082 = .ok (.i2l, 1) := by decide +kernel
theorem d_Lw_law_1083 : decode code 1083 = .ok (.lcmp, 1) := by decide +kernel
theorem d_Lw_law_1084 : decode code 1084 = .ok (.ifCond .eq (5), 3) := by decide +kernel
theorem d_Lw_law_1087 : decode code 1087 = .ok (.iconst 0, 1) := by decide +kernel
theorem d_Lw_law_1088 : decode code 1088 = .ok (.ireturn, 1) := by decide +kernel
theorem d_Lw_law_1089 : decode code 1089 = .ok (.goto (227), 3) := by decide +kernel
theorem d_Lw_law_1092 : decode code 1092 = .ok (.aload_n 1, 1) := by decide +kernel
theorem d_Lw_law_1093 : decode code 1093 = .ok (.aload_n 0, 1) := by decide +kernel
theorem d_Lw_law_1094 : decode code 1094 = .ok (.iload 4, 2) := by decide +kernel
theorem d_Lw_law_1096 : decode code 1096 = .ok (.iconst 1, 1) := by decide +kernel
theorem d_Lw_law_1097 : decode code 1097 = .ok (.iadd, 1) := by decide +kernel
theorem d_Lw_law_1098 : decode code 1098 = .ok (.iaload, 1) := by decide +kernel
theorem d_Lw_law_1099 : decode code 1099 = .ok (.aload_n 0, 1) := by decide +kernel
theorem d_Lw_law_1100 : decode code 1100 = .ok (.iload 4, 2) := by decide +kernel
theorem d_Lw_law_1102 : decode code 1102 = .ok (.iconst 2, 1) := by decide +kernel
theorem d_Lw_law_1103 : decode code 1103 = .ok (.iadd, 1) := by decide +kernel
theorem d_Lw_law_1104 : decode code 1104 = .ok (.iaload, 1) := by decide +kernel
theorem d_Lw_law_1105 : decode code 1105 = .ok (.aload_n 3, 1) := by decide +kernel
theorem d_Lw_law_1106 : decode code 1106 = .ok (.invokestatic 145, 3) := by decide +kernel
theorem d_Lw_law_1109 : decode code 1109 = .ok (.istore 5, 2) := by decide +kernel
theorem d_Lw_law_1111 : decode code 1111 = .ok (.aload_n 2, 1) := by decide +kernel
theorem d_Lw_law_1112 : decode code 1112 = .ok (.aload_n 0, 1) := by decide +kernel
theorem d_Lw_law_1113 : decode code 1113 = .ok (.iload 4, 2) := by decide +kernel
theorem d_Lw_law_1115 : decode code 1115 = .ok (.iconst 1, 1) := by decide +kernel
theorem d_Lw_law_1116 : decode code 1116 = .ok (.iadd, 1) := by decide +kernel
theorem d_Lw_law_1117 : decode code 1117 = .ok (.iaload, 1) := by decide +kernel
theorem d_Lw_law_1118 : decode code 1118 = .ok (.aload_n 0, 1) := by decide +kernel
theorem d_Lw_law_1119 : decode code 1119 = .ok (.iload 4, 2) := by decide +kernel
theorem d_Lw_law_1121 : decode code 1121 = .ok (.iconst 2, 1) := by decide +kernel
theorem d_Lw_law_1122 : decode code 1122 = .ok (.iadd, 1) := by decide +kernel
theorem d_Lw_law_1123 : decode code 1123 = .ok (.iaload, 1) := by decide +kernel
theorem d_Lw_law_1124 : decode code 1124 = .ok (.invokevirtual 147, 3) := by decide +kernel
theorem d_Lw_law_1127 : decode code 1127 = .ok (.istore 6, 2) := by decide +kernel
theorem d_Lw_law_1129 : decode code 1129 = .ok (.aload_n 2, 1) := by decide +kernel
theorem d_Lw_law_1130 : decode code 1130 = .ok (.invokevirtual 91, 3) := by decide +kernel
theorem d_Lw_law_1133 : decode code 1133 = .ok (.iload 5, 2) := by decide +kernel
theorem d_Lw_law_1135 : decode code 1135 = .ok (.if_icmp .eq (5), 3) := by decide +kernel
theorem d_Lw_law_1138 : decode code 1138 = .ok (.iconst 0, 1) := by decide +kernel
theorem d_Lw_law_1139 : decode code 1139 = .ok (.ireturn, 1) := by decide +kernel
theorem d_Lw_law_1140 : decode code 1140 = .ok (.iload 5, 2) := by decide +kernel
theorem d_Lw_law_1142 : decode code 1142 = .ok (.ifCond .ne (15), 3) := by decide +kernel
theorem d_Lw_law_1145 : decode code 1145 = .ok (.aload_n 3, 1) := by decide +kernel
theorem d_Lw_law_1146 : decode code 1146 = .ok (.iconst 0, 1) := by decide +kernel
theorem d_Lw_law_1147 : decode code 1147 = .ok (.laload, 1) := by decide +kernel
theorem d_Lw_law_1148 : decode code 1148 = .ok (.iload 6, 2) := by decide +kernel
theorem d_Lw_law_1150 : decode code 1150 = .ok (.i2l, 1) := by decide +kernel
theorem d_Lw_law_1151 : decode code 1151 = .ok (.lcmp, 1) := by decide +kernel
theorem d_Lw_law_1152 : decode code 1152 = .ok (.ifCond .eq (5), 3) := by decide +kernel
theorem d_Lw_law_1155 : decode code 1155 = .ok (.iconst 0, 1) := by decide +kernel
theorem d_Lw_law_1156 : decode code 1156 = .ok (.ireturn, 1) := by decide +kernel
theorem d_Lw_law_1157 : decode code 1157 = .ok (.goto (159), 3) := by decide +kernel
theorem d_Lw_law_1160 : decode code 1160 = .ok (.aload_n 1, 1) := by decide +kernel
theorem d_Lw_law_1161 : decode code 1161 = .ok (.aload_n 0, 1) := by decide +kernel
theorem d_Lw_law_1162 : decode code 1162 = .ok (.iload 4, 2) := by decide +kernel
theorem d_Lw_law_1164 : decode code 1164 = .ok (.iconst 1, 1) := by decide +kernel
theorem d_Lw_law_1165 : decode code 1165 = .ok (.iadd, 1) := by decide +kernel
theorem d_Lw_law_1166 : decode code 1166 = .ok (.iaload, 1) := by decide +kernel
theorem d_Lw_law_1167 : decode code 1167 = .ok (.aload_n 0, 1) := by decide +kernel
theorem d_Lw_law_1168 : decode code 1168 = .ok (.iload 4, 2) := by decide +kernel
theorem d_Lw_law_1170 : decode code 1170 = .ok (.iconst 2, 1) := by decide +kernel
theorem d_Lw_law_1171 : decode code 1171 = .ok (.iadd, 1) := by decide +kernel
theorem d_Lw_law_1172 : decode code 1172 = .ok (.iaload, 1) := by decide +kernel
theorem d_Lw_law_1173 : decode code 1173 = .ok (.aload_n 3, 1) := by decide +kernel
theorem d_Lw_law_1174 : decode code 1174 = .ok (.invokestatic 148, 3) := by decide +kernel
theorem d_Lw_law_1177 : decode code 1177 = .ok (.istore 5, 2) := by decide +kernel
theorem d_Lw_law_1179 : decode code 1179 = .ok (.aload_n 2, 1) := by decide +kernel
theorem d_Lw_law_1180 : decode code 1180 = .ok (.aload_n 0, 1) := by decide +kernel
theorem d_Lw_law_1181 : decode code 1181 = .ok (.iload 4, 2) := by decide +kernel
theorem d_Lw_law_1183 : decode code 1183 = .ok (.iconst 1, 1) := by decide +kernel
theorem d_Lw_law_1184 : decode code 1184 = .ok (.iadd, 1) := by decide +kernel
theorem d_Lw_law_1185 : decode code 1185 = .ok (.iaload, 1) := by decide +kernel
theorem d_Lw_law_1186 : decode code 1186 = .ok (.aload_n 0, 1) := by decide +kernel
theorem d_Lw_law_1187 : decode code 1187 = .ok (.iload 4, 2) := by decide +kernel
theorem d_Lw_law_1189 : decode code 1189 = .ok (.iconst 2, 1) := by decide +kernel
theorem d_Lw_law_1190 : decode code 1190 = .ok (.iadd, 1) := by decide +kernel
theorem d_Lw_law_1191 : decode code 1191 = .ok (.iaload, 1) := by decide +kernel
theorem d_Lw_law_1192 : decode code 1192 = .ok (.invokevirtual 150, 3) := by decide +kernel
theorem d_Lw_law_1195 : decode code 1195 = .ok (.istore 6, 2) := by decide +kernel
theorem d_Lw_law_1197 : decode code 1197 = .ok (.aload_n 2, 1) := by decide +kernel
theorem d_Lw_law_1198 : decode code 1198 = .ok (.invokevirtual 91, 3) := by decide +kernel
theorem d_Lw_law_1201 : decode code 1201 = .ok (.iload 5, 2) := by decide +kernel
theorem d_Lw_law_1203 : decode code 1203 = .ok (.if_icmp .eq (5), 3) := by decide +kernel
theorem d_Lw_law_1206 : decode code 1206 = .ok (.iconst 0, 1) := by decide +kernel
theorem d_Lw_law_1207 : decode code 1207 = .ok (.ireturn, 1) := by decide +kernel
theorem d_Lw_law_1208 : decode code 1208 = .ok (.iload 5, 2) := by decide +kernel
theorem d_Lw_law_1210 : decode code 1210 = .ok (.ifCond .ne (15), 3) := by decide +kernel
theorem d_Lw_law_1213 : decode code 1213 = .ok (.aload_n 3, 1) := by decide +kernel
theorem d_Lw_law_1214 : decode code 1214 = .ok (.iconst 0, 1) := by decide +kernel
theorem d_Lw_law_1215 : decode code 1215 = .ok (.laload, 1) := by decide +kernel
theorem d_Lw_law_1216 : decode code 1216 = .ok (.iload 6, 2) := by decide +kernel
theorem d_Lw_law_1218 : decode code 1218 = .ok (.i2l, 1) := by decide +kernel
theorem d_Lw_law_1219 : decode code 1219 = .ok (.lcmp, 1) := by decide +kernel
theorem d_Lw_law_1220 : decode code 1220 = .ok (.ifCond .eq (5), 3) := by decide +kernel
theorem d_Lw_law_1223 : decode code 1223 = .ok (.iconst 0, 1) := by decide +kernel
theorem d_Lw_law_1224 : decode code 1224 = .ok (.ireturn, 1) := by decide +kernel
theorem d_Lw_law_1225 : decode code 1225 = .ok (.goto (91), 3) := by decide +kernel
theorem d_Lw_law_1228 : decode code 1228 = .ok (.aload_n 1, 1) := by decide +kernel
theorem d_Lw_law_1229 : decode code 1229 = .ok (.aload_n 0, 1) := by decide +kernel
theorem d_Lw_law_1230 : decode code 1230 = .ok (.iload 4, 2) := by decide +kernel
theorem d_Lw_law_1232 : decode code 1232 = .ok (.iconst 1, 1) := by decide +kernel
theorem d_Lw_law_1233 : decode code 1233 = .ok (.iadd, 1) := by decide +kernel
theorem d_Lw_law_1234 : decode code 1234 = .ok (.iaload, 1) := by decide +kernel
theorem d_Lw_law_1235 : decode code 1235 = .ok (.aload_n 0, 1) := by decide +kernel
theorem d_Lw_law_1236 : decode code 1236 = .ok (.iload 4, 2) := by decide +kernel
theorem d_Lw_law_1238 : decode code 1238 = .ok (.iconst 2, 1) := by decide +kernel
theorem d_Lw_law_1239 : decode code 1239 = .ok (.iadd, 1) := by decide +kernel
theorem d_Lw_law_1240 : decode code 1240 = .ok (.iaload, 1) := by decide +kernel
theorem d_Lw_law_1241 : decode code 1241 = .ok (.aload_n 3, 1) := by decide +kernel
theorem d_Lw_law_1242 : decode code 1242 = .ok (.invokestatic 151, 3) := by decide +kernel
theorem d_Lw_law_1245 : decode code 1245 = .ok (.istore 5, 2) := by decide +kernel
theorem d_Lw_law_1247 : decode code 1247 = .ok (.aload_n 2, 1) := by decide +kernel
theorem d_Lw_law_1248 : decode code 1248 = .ok (.aload_n 0, 1) := by decide +kernel
theorem d_Lw_law_1249 : decode code 1249 = .ok (.iload 4, 2) := by decide +kernel
theorem d_Lw_law_1251 : decode code 1251 = .ok (.iconst 1, 1) := by decide +kernel
theorem d_Lw_law_1252 : decode code 1252 = .ok (.iadd, 1) := by decide +kernel
theorem d_Lw_law_1253 : decode code 1253 = .ok (.iaload, 1) := by decide +kernel
theorem d_Lw_law_1254 : decode code 1254 = .ok (.aload_n 0, 1) := by decide +kernel
theorem d_Lw_law_1255 : decode code 1255 = .ok (.iload 4, 2) := by decide +kernel
theorem d_Lw_law_1257 : decode code 1257 = .ok (.iconst 2, 1) := by decide +kernel
theorem d_Lw_law_1258 : decode code 1258 = .ok (.iadd, 1) := by decide +kernel
theorem d_Lw_law_1259 : decode code 1259 = .ok (.iaload, 1) := by decide +kernel
theorem d_Lw_law_1260 : decode code 1260 = .ok (.invokevirtual 153, 3) := by decide +kernel
theorem d_Lw_law_1263 : decode code 1263 = .ok (.istore 6, 2) := by decide +kernel
theorem d_Lw_law_1265 : decode code 1265 = .ok (.aload_n 2, 1) := by decide +kernel
theorem d_Lw_law_1266 : decode code 1266 = .ok (.invokevirtual 91, 3) := by decide +kernel
theorem d_Lw_law_1269 : decode code 1269 = .ok (.iload 5, 2) := by decide +kernel
theorem d_Lw_law_1271 : decode code 1271 = .ok (.if_icmp .eq (5), 3) := by decide +kernel
theorem d_Lw_law_1274 : decode code 1274 = .ok (.iconst 0, 1) := by decide +kernel
theorem d_Lw_law_1275 : decode code 1275 = .ok (.ireturn, 1) := by decide +kernel
theorem d_Lw_law_1276 : decode code 1276 = .ok (.iload 5, 2) := by decide +kernel
theorem d_Lw_law_1278 : decode code 1278 = .ok (.ifCond .ne (22), 3) := by decide +kernel
theorem d_Lw_law_1281 : decode code 1281 = .ok (.aload_n 3, 1) := by decide +kernel
theorem d_Lw_law_1282 : decode code 1282 = .ok (.iconst 0, 1) := by decide +kernel
theorem d_Lw_law_1283 : decode code 1283 = .ok (.laload, 1) := by decide +kernel
theorem d_Lw_law_1284 : decode code 1284 = .ok (.iload 6, 2) := by decide +kernel
theorem d_Lw_law_1286 : decode code 1286 = .ok (.ifCond .eq (7), 3) := by decide +kernel
theorem d_Lw_law_1289 : decode code 1289 = .ok (.lconst 1, 1) := by decide +kernel
theorem d_Lw_law_1290 : decode code 1290 = .ok (.goto (4), 3) := by decide +kernel
theorem d_Lw_law_1293 : decode code 1293 = .ok (.lconst 0, 1) := by decide +kernel
theorem d_Lw_law_1294 : decode code 1294 = .ok (.lcmp, 1) := by decide +kernel
theorem d_Lw_law_1295 : decode code 1295 = .ok (.ifCond .eq (5), 3) := by decide +kernel
theorem d_Lw_law_1298 : decode code 1298 = .ok (.iconst 0, 1) := by decide +kernel
theorem d_Lw_law_1299 : decode code 1299 = .ok (.ireturn, 1) := by decide +kernel
theorem d_Lw_law_1300 : decode code 1300 = .ok (.goto (16), 3) := by decide +kernel
theorem d_Lw_law_1303 : decode code 1303 = .ok (.aload_n 1, 1) := by decide +kernel
theorem d_Lw_law_1304 : decode code 1304 = .ok (.invokevirtual 154, 3) := by decide +kernel
theorem d_Lw_law_1307 : decode code 1307 = .ok (.aload_n 2, 1) := by decide +kernel
theorem d_Lw_law_1308 : decode code 1308 = .ok (.invokevirtual 158, 3) := by decide +kernel
theorem d_Lw_law_1311 : decode code 1311 = .ok (.if_icmp .eq (5), 3) := by decide +kernel
theorem d_Lw_law_1314 : decode code 1314 = .ok (.iconst 0, 1) := by decide +kernel
theorem d_Lw_law_1315 : decode code 1315 = .ok (.ireturn, 1) := by decide +kernel
theorem d_Lw_law_1316 : decode code 1316 = .ok (.iinc 4 4, 3) := by decide +kernel
theorem d_Lw_law_1319 : decode code 1319 = .ok (.goto (-1276), 3) := by decide +kernel
theorem d_Lw_law_1322 : decode code 1322 = .ok (.iconst 1, 1) := by decide +kernel
theorem d_Lw_law_1323 : decode code 1323 = .ok (.ireturn, 1) := by decide +kernel
