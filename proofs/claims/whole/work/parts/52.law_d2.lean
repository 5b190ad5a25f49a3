theorem d_L_law_1035 : decode code 1035 = .ok (.iaload, 1) := by decide +kernel
theorem d_L_law_1036 : decode code 1036 = .ok (.aload_n 0, 1) := by decide +kernel
theorem d_L_law_1037 : decode code 1037 = .ok (.iload 4, 2) := by decide +kernel
theorem d_L_law_1039 : decode code 1039 = .ok (.iconst 3, 1) := by decide +kernel
theorem d_L_law_1040 : decode code 1040 = .ok (.iadd, 1) := by decide +kernel
theorem d_L_law_1041 : decode code 1041 = .ok (.iaload, 1) := by decide +kernel
theorem d_L_law_1042 : decode code 1042 = .ok (.invokestatic 148, 3) := by decide +kernel
theorem d_L_law_1045 : decode code 1045 = .ok (.istore 5, 2) := by decide +kernel
theorem d_L_law_1047 : decode code 1047 = .ok (.aload_n 2, 1) := by decide +kernel
theorem d_L_law_1048 : decode code 1048 = .ok (.aload_n 0, 1) := by decide +kernel
theorem d_L_law_1049 : decode code 1049 = .ok (.iload 4, 2) := by decide +kernel
theorem d_L_law_1051 : decode code 1051 = .ok (.iconst 1, 1) := by decide +kernel
theorem d_L_law_1052 : decode code 1052 = .ok (.iadd, 1) := by decide +kernel
theorem d_L_law_1053 : decode code 1053 = .ok (.iaload, 1) := by decide +kernel
theorem d_L_law_1054 : decode code 1054 = .ok (.aload_n 0, 1) := by decide +kernel
theorem d_L_law_1055 : decode code 1055 = .ok (.iload 4, 2) := by decide +kernel
theorem d_L_law_1057 : decode code 1057 = .ok (.iconst 2, 1) := by decide +kernel
theorem d_L_law_1058 : decode code 1058 = .ok (.iadd, 1) := by decide +kernel
theorem d_L_law_1059 : decode code 1059 = .ok (.iaload, 1) := by decide +kernel
theorem d_L_law_1060 : decode code 1060 = .ok (.aload_n 0, 1) := by decide +kernel
theorem d_L_law_1061 : decode code 1061 = .ok (.iload 4, 2) := by decide +kernel
theorem d_L_law_1063 : decode code 1063 = .ok (.iconst 3, 1) := by decide +kernel
theorem d_L_law_1064 : decode code 1064 = .ok (.iadd, 1) := by decide +kernel
theorem d_L_law_1065 : decode code 1065 = .ok (.iaload, 1) := by decide +kernel
theorem d_L_law_1066 : decode code 1066 = .ok (.invokevirtual 151, 3) := by decide +kernel
theorem d_L_law_1069 : decode code 1069 = .ok (.aload_n 2, 1) := by decide +kernel
theorem d_L_law_1070 : decode code 1070 = .ok (.invokevirtual 99, 3) := by decide +kernel
theorem d_L_law_1073 : decode code 1073 = .ok (.iload 5, 2) := by decide +kernel
theorem d_L_law_1075 : decode code 1075 = .ok (.if_icmp .eq 5, 3) := by decide +kernel
theorem d_L_law_1078 : decode code 1078 = .ok (.iconst 0, 1) := by decide +kernel
theorem d_L_law_1079 : decode code 1079 = .ok (.ireturn, 1) := by decide +kernel
theorem d_L_law_1080 : decode code 1080 = .ok (.goto 341, 3) := by decide +kernel
theorem d_L_law_1083 : decode code 1083 = .ok (.aload_n 1, 1) := by decide +kernel
theorem d_L_law_1084 : decode code 1084 = .ok (.aload_n 0, 1) := by decide +kernel
theorem d_L_law_1085 : decode code 1085 = .ok (.iload 4, 2) := by decide +kernel
theorem d_L_law_1087 : decode code 1087 = .ok (.iconst 1, 1) := by decide +kernel
theorem d_L_law_1088 : decode code 1088 = .ok (.iadd, 1) := by decide +kernel
theorem d_L_law_1089 : decode code 1089 = .ok (.iaload, 1) := by decide +kernel
theorem d_L_law_1090 : decode code 1090 = .ok (.aload_n 0, 1) := by decide +kernel
theorem d_L_law_1091 : decode code 1091 = .ok (.iload 4, 2) := by decide +kernel
theorem d_L_law_1093 : decode code 1093 = .ok (.iconst 2, 1) := by decide +kernel
theorem d_L_law_1094 : decode code 1094 = .ok (.iadd, 1) := by decide +kernel
theorem d_L_law_1095 : decode code 1095 = .ok (.iaload, 1) := by decide +kernel
theorem d_L_law_1096 : decode code 1096 = .ok (.aload_n 0, 1) := by decide +kernel
theorem d_L_law_1097 : decode code 1097 = .ok (.iload 4, 2) := by decide +kernel
theorem d_L_law_1099 : decode code 1099 = .ok (.iconst 3, 1) := by decide +kernel
theorem d_L_law_1100 : decode code 1100 = .ok (.iadd, 1) := by decide +kernel
theorem d_L_law_1101 : decode code 1101 = .ok (.iaload, 1) := by decide +kernel
theorem d_L_law_1102 : decode code 1102 = .ok (.aload_n 3, 1) := by decide +kernel
theorem d_L_law_1103 : decode code 1103 = .ok (.invokestatic 152, 3) := by decide +kernel
theorem d_L_law_1106 : decode code 1106 = .ok (.istore 5, 2) := by decide +kernel
theorem d_L_law_1108 : decode code 1108 = .ok (.aload_n 2, 1) := by decide +kernel
theorem d_L_law_1109 : decode code 1109 = .ok (.aload_n 0, 1) := by decide +kernel
theorem d_L_law_1110 : decode code 1110 = .ok (.iload 4, 2) := by decide +kernel
theorem d_L_law_1112 : decode code 1112 = .ok (.iconst 1, 1) := by decide +kernel
theorem d_L_law_1113 : decode code 1113 = .ok (.iadd, 1) := by decide +kernel
theorem d_L_law_1114 : decode code 1114 = .ok (.iaload, 1) := by decide +kernel
theorem d_L_law_1115 : decode code 1115 = .ok (.aload_n 0, 1) := by decide +kernel
theorem d_L_law_1116 : decode code 1116 = .ok (.iload 4, 2) := by decide +kernel
theorem d_L_law_1118 : decode code 1118 = .ok (.iconst 2, 1) := by decide +kernel
theorem d_L_law_1119 : decode code 1119 = .ok (.iadd, 1) := by decide +kernel
theorem d_L_law_1120 : decode code 1120 = .ok (.iaload, 1) := by decide +kernel
theorem d_L_law_1121 : decode code 1121 = .ok (.aload_n 0, 1) := by decide +kernel
theorem d_L_law_1122 : decode code 1122 = .ok (.iload 4, 2) := by decide +kernel
theorem d_L_law_1124 : decode code 1124 = .ok (.iconst 3, 1) := by decide +kernel
theorem d_L_law_1125 : decode code 1125 = .ok (.iadd, 1) := by decide +kernel
theorem d_L_law_1126 : decode code 1126 = .ok (.iaload, 1) := by decide +kernel
theorem d_L_law_1127 : decode code 1127 = .ok (.invokevirtual 154, 3) := by decide +kernel
theorem d_L_law_1130 : decode code 1130 = .ok (.lstore 6, 2) := by decide +kernel
theorem d_L_law_1132 : decode code 1132 = .ok (.aload_n 2, 1) := by decide +kernel
theorem d_L_law_1133 : decode code 1133 = .ok (.invokevirtual 99, 3) := by decide +kernel
theorem d_L_law_1136 : decode code 1136 = .ok (.iload 5, 2) := by decide +kernel
theorem d_L_law_1138 : decode code 1138 = .ok (.if_icmp .eq 5, 3) := by decide +kernel
theorem d_L_law_1141 : decode code 1141 = .ok (.iconst 0, 1) := by decide +kernel
theorem d_L_law_1142 : decode code 1142 = .ok (.ireturn, 1) := by decide +kernel
theorem d_L_law_1143 : decode code 1143 = .ok (.iload 5, 2) := by decide +kernel
theorem d_L_law_1145 : decode code 1145 = .ok (.ifCond .ne 14, 3) := by decide +kernel
theorem d_L_law_1148 : decode code 1148 = .ok (.aload_n 3, 1) := by decide +kernel
theorem d_L_law_1149 : decode code 1149 = .ok (.iconst 0, 1) := by decide +kernel
theorem d_L_law_1150 : decode code 1150 = .ok (.laload, 1) := by decide +kernel
theorem d_L_law_1151 : decode code 1151 = .ok (.lload 6, 2) := by decide +kernel
theorem d_L_law_1153 : decode code 1153 = .ok (.lcmp, 1) := by decide +kernel
theorem d_L_law_1154 : decode code 1154 = .ok (.ifCond .eq 5, 3) := by decide +kernel
theorem d_L_law_1157 : decode code 1157 = .ok (.iconst 0, 1) := by decide +kernel
theorem d_L_law_1158 : decode code 1158 = .ok (.ireturn, 1) := by decide +kernel
theorem d_L_law_1159 : decode code 1159 = .ok (.goto 262, 3) := by decide +kernel
theorem d_L_law_1162 : decode code 1162 = .ok (.aload_n 1, 1) := by decide +kernel
theorem d_L_law_1163 : decode code 1163 = .ok (.aload_n 0, 1) := by decide +kernel
theorem d_L_law_1164 : decode code 1164 = .ok (.iload 4, 2) := by decide +kernel
theorem d_L_law_1166 : decode code 1166 = .ok (.iconst 1, 1) := by decide +kernel
theorem d_L_law_1167 : decode code 1167 = .ok (.iadd, 1) := by decide +kernel
theorem d_L_law_1168 : decode code 1168 = .ok (.iaload, 1) := by decide +kernel
theorem d_L_law_1169 : decode code 1169 = .ok (.aload_n 0, 1) := by decide +kernel
theorem d_L_law_1170 : decode code 1170 = .ok (.iload 4, 2) := by decide +kernel
theorem d_L_law_1172 : decode code 1172 = .ok (.iconst 2, 1) := by decide +kernel
theorem d_L_law_1173 : decode code 1173 = .ok (.iadd, 1) := by decide +kernel
theorem d_L_law_1174 : decode code 1174 = .ok (.iaload, 1) := by decide +kernel
theorem d_L_law_1175 : decode code 1175 = .ok (.aload_n 3, 1) := by decide +kernel
theorem d_L_law_1176 : decode code 1176 = .ok (.invokestatic 155, 3) := by decide +kernel
theorem d_L_law_1179 : decode code 1179 = .ok (.istore 5, 2) := by decide +kernel
theorem d_L_law_1181 : decode code 1181 = .ok (.aload_n 2, 1) := by decide +kernel
theorem d_L_law_1182 : decode code 1182 = .ok (.aload_n 0, 1) := by decide +kernel
theorem d_L_law_1183 : decode code 1183 = .ok (.iload 4, 2) := by decide +kernel
theorem d_L_law_1185 : decode code 1185 = .ok (.iconst 1, 1) := by decide +kernel
theorem d_L_law_1186 : decode code 1186 = .ok (.iadd, 1) := by decide +kernel
theorem d_L_law_1187 : decode code 1187 = .ok (.iaload, 1) := by decide +kernel
theorem d_L_law_1188 : decode code 1188 = .ok (.aload_n 0, 1) := by decide +kernel
theorem d_L_law_1189 : decode code 1189 = .ok (.iload 4, 2) := by decide +kernel
theorem d_L_law_1191 : decode code 1191 = .ok (.iconst 2, 1) := by decide +kernel
theorem d_L_law_1192 : decode code 1192 = .ok (.iadd, 1) := by decide +kernel
theorem d_L_law_1193 : decode code 1193 = .ok (.iaload, 1) := by decide +kernel
theorem d_L_law_1194 : decode code 1194 = .ok (.invokevirtual 157, 3) := by decide +kernel
theorem d_L_law_1197 : decode code 1197 = .ok (.istore 6, 2) := by decide +kernel
theorem d_L_law_1199 : decode code 1199 = .ok (.aload_n 2, 1) := by decide +kernel
theorem d_L_law_1200 : decode code 1200 = .ok (.invokevirtual 99, 3) := by decide +kernel
theorem d_L_law_1203 : decode code 1203 = .ok (.iload 5, 2) := by decide +kernel
theorem d_L_law_1205 : decode code 1205 = .ok (.if_icmp .eq 5, 3) := by decide +kernel
theorem d_L_law_1208 : decode code 1208 = .ok (.iconst 0, 1) := by decide +kernel
theorem d_L_law_1209 : decode code 1209 = .ok (.ireturn, 1) := by decide +kernel
theorem d_L_law_1210 : decode code 1210 = .ok (.iload 5, 2) := by decide +kernel
theorem d_L_law_1212 : decode code 1212 = .ok (.ifCond .ne 15, 3) := by decide +kernel
theorem d_L_law_1215 : decode code 1215 = .ok (.aload_n 3, 1) := by decide +kernel
theorem d_L_law_1216 : decode code 1216 = .ok (.iconst 0, 1) := by decide +kernel
theorem d_L_law_1217 : decode code 1217 = .ok (.laload, 1) := by decide +kernel
theorem d_L_law_1218 : decode code 1218 = .ok (.iload 6, 2) := by decide +kernel
theorem d_L_law_1220 : decode code 1220 = .ok (.i2l, 1) := by decide +kernel
theorem d_L_law_1221 : decode code 1221 = .ok (.lcmp, 1) := by decide +kernel
theorem d_L_law_1222 : decode code 1222 = .ok (.ifCond .eq 5, 3) := by decide +kernel
theorem d_L_law_1225 : decode code 1225 = .ok (.iconst 0, 1) := by decide +kernel
theorem d_L_law_1226 : decode code 1226 = .ok (.ireturn, 1) := by decide +kernel
theorem d_L_law_1227 : decode code 1227 = .ok (.goto 194, 3) := by decide +kernel
theorem d_L_law_1230 : decode code 1230 = .ok (.aload_n 1, 1) := by decide +kernel
theorem d_L_law_1231 : decode code 1231 = .ok (.aload_n 0, 1) := by decide +kernel
theorem d_L_law_1232 : decode code 1232 = .ok (.iload 4, 2) := by decide +kernel
theorem d_L_law_1234 : decode code 1234 = .ok (.iconst 1, 1) := by decide +kernel
theorem d_L_law_1235 : decode code 1235 = .ok (.iadd, 1) := by decide +kernel
theorem d_L_law_1236 : decode code 1236 = .ok (.iaload, 1) := by decide +kernel
theorem d_L_law_1237 : decode code 1237 = .ok (.aload_n 0, 1) := by decide +kernel
theorem d_L_law_1238 : decode code 1238 = .ok (.iload 4, 2) := by decide +kernel
theorem d_L_law_1240 : decode code 1240 = .ok (.iconst 2, 1) := by decide +kernel
theorem d_L_law_1241 : decode code 1241 = .ok (.iadd, 1) := by decide +kernel
theorem d_L_law_1242 : decode code 1242 = .ok (.iaload, 1) := by decide +kernel
theorem d_L_law_1243 : decode code 1243 = .ok (.aload_n 3, 1) := by decide +kernel
theorem d_L_law_1244 : decode code 1244 = .ok (.invokestatic 158, 3) := by decide +kernel
theorem d_L_law_1247 : decode code 1247 = .ok (.istore 5, 2) := by decide +kernel
theorem d_L_law_1249 : decode code 1249 = .ok (.aload_n 2, 1) := by decide +kernel
theorem d_L_law_1250 : decode code 1250 = .ok (.aload_n 0, 1) := by decide +kernel
theorem d_L_law_1251 : decode code 1251 = .ok (.iload 4, 2) := by decide +kernel
theorem d_L_law_1253 : decode code 1253 = .ok (.iconst 1, 1) := by decide +kernel
theorem d_L_law_1254 : decode code 1254 = .ok (.iadd, 1) := by decide +kernel
theorem d_L_law_1255 : decode code 1255 = .ok (.iaload, 1) := by decide +kernel
theorem d_L_law_1256 : decode code 1256 = .ok (.aload_n 0, 1) := by decide +kernel
theorem d_L_law_1257 : decode code 1257 = .ok (.iload 4, 2) := by decide +kernel
theorem d_L_law_1259 : decode code 1259 = .ok (.iconst 2, 1) := by decide +kernel
theorem d_L_law_1260 : decode code 1260 = .ok (.iadd, 1) := by decide +kernel
theorem d_L_law_1261 : decode code 1261 = .ok (.iaload, 1) := by decide +kernel
theorem d_L_law_1262 : decode code 1262 = .ok (.invokevirtual 160, 3) := by decide +kernel
theorem d_L_law_1265 : decode code 1265 = .ok (.istore 6, 2) := by decide +kernel
theorem d_L_law_1267 : decode code 1267 = .ok (.aload_n 2, 1) := by decide +kernel
theorem d_L_law_1268 : decode code 1268 = .ok (.invokevirtual 99, 3) := by decide +kernel
theorem d_L_law_1271 : decode code 1271 = .ok (.iload 5, 2) := by decide +kernel
theorem d_L_law_1273 : decode code 1273 = .ok (.if_icmp .eq 5, 3) := by decide +kernel
theorem d_L_law_1276 : decode code 1276 = .ok (.iconst 0, 1) := by decide +kernel
theorem d_L_law_1277 : decode code 1277 = .ok (.ireturn, 1) := by decide +kernel
theorem d_L_law_1278 : decode code 1278 = .ok (.iload 5, 2) := by decide +kernel
theorem d_L_law_1280 : decode code 1280 = .ok (.ifCond .ne 15, 3) := by decide +kernel
theorem d_L_law_1283 : decode code 1283 = .ok (.aload_n 3, 1) := by decide +kernel
theorem d_L_law_1284 : decode code 1284 = .ok (.iconst 0, 1) := by decide +kernel
theorem d_L_law_1285 : decode code 1285 = .ok (.laload, 1) := by decide +kernel
theorem d_L_law_1286 : decode code 1286 = .ok (.iload 6, 2) := by decide +kernel
theorem d_L_law_1288 : decode code 1288 = .ok (.i2l, 1) := by decide +kernel
theorem d_L_law_1289 : decode code 1289 = .ok (.lcmp, 1) := by decide +kernel
theorem d_L_law_1290 : decode code 1290 = .ok (.ifCond .eq 5, 3) := by decide +kernel
theorem d_L_law_1293 : decode code 1293 = .ok (.iconst 0, 1) := by decide +kernel
theorem d_L_law_1294 : decode code 1294 = .ok (.ireturn, 1) := by decide +kernel
theorem d_L_law_1295 : decode code 1295 = .ok (.goto 126, 3) := by decide +kernel
theorem d_L_law_1298 : decode code 1298 = .ok (.aload_n 1, 1) := by decide +kernel
theorem d_L_law_1299 : decode code 1299 = .ok (.aload_n 0, 1) := by decide +kernel
theorem d_L_law_1300 : decode code 1300 = .ok (.iload 4, 2) := by decide +kernel
theorem d_L_law_1302 : decode code 1302 = .ok (.iconst 1, 1) := by decide +kernel
theorem d_L_law_1303 : decode code 1303 = .ok (.iadd, 1) := by decide +kernel
theorem d_L_law_1304 : decode code 1304 = .ok (.iaload, 1) := by decide +kernel
theorem d_L_law_1305 : decode code 1305 = .ok (.aload_n 0, 1) := by decide +kernel
theorem d_L_law_1306 : decode code 1306 = .ok (.iload 4, 2) := by decide +kernel
theorem d_L_law_1308 : decode code 1308 = .ok (.iconst 2, 1) := by decide +kernel
theorem d_L_law_1309 : decode code 1309 = .ok (.iadd, 1) := by decide +kernel
theorem d_L_law_1310 : decode code 1310 = .ok (.iaload, 1) := by decide +kernel
theorem d_L_law_1311 : decode code 1311 = .ok (.aload_n 3, 1) := by decide +kernel
theorem d_L_law_1312 : decode code 1312 = .ok (.invokestatic 161, 3) := by decide +kernel
theorem d_L_law_1315 : decode code 1315 = .ok (.istore 5, 2) := by decide +kernel
theorem d_L_law_1317 : decode code 1317 = .ok (.aload_n 2, 1) := by decide +kernel
theorem d_L_law_1318 : decode code 1318 = .ok (.aload_n 0, 1) := by decide +kernel
theorem d_L_law_1319 : decode code 1319 = .ok (.iload 4, 2) := by decide +kernel
theorem d_L_law_1321 : decode code 1321 = .ok (.iconst 1, 1) := by decide +kernel
theorem d_L_law_1322 : decode code 1322 = .ok (.iadd, 1) := by decide +kernel
theorem d_L_law_1323 : decode code 1323 = .ok (.iaload, 1) := by decide +kernel
theorem d_L_law_1324 : decode code 1324 = .ok (.aload_n 0, 1) := by decide +kernel
theorem d_L_law_1325 : decode code 1325 = .ok (.iload 4, 2) := by decide +kernel
theorem d_L_law_1327 : decode code 1327 = .ok (.iconst 2, 1) := by decide +kernel
theorem d_L_law_1328 : decode code 1328 = .ok (.iadd, 1) := by decide +kernel
theorem d_L_law_1329 : decode code 1329 = .ok (.iaload, 1) := by decide +kernel
theorem d_L_law_1330 : decode code 1330 = .ok (.invokevirtual 163, 3) := by decide +kernel
theorem d_L_law_1333 : decode code 1333 = .ok (.lstore 6, 2) := by decide +kernel
theorem d_L_law_1335 : decode code 1335 = .ok (.aload_n 2, 1) := by decide +kernel
theorem d_L_law_1336 : decode code 1336 = .ok (.invokevirtual 99, 3) := by decide +kernel
theorem d_L_law_1339 : decode code 1339 = .ok (.iload 5, 2) := by decide +kernel
theorem d_L_law_1341 : decode code 1341 = .ok (.if_icmp .eq 5, 3) := by decide +kernel
theorem d_L_law_1344 : decode code 1344 = .ok (.iconst 0, 1) := by decide +kernel
theorem d_L_law_1345 : decode code 1345 = .ok (.ireturn, 1) := by decide +kernel
theorem d_L_law_1346 : decode code 1346 = .ok (.iload 5, 2) := by decide +kernel
theorem d_L_law_1348 : decode code 1348 = .ok (.ifCond .ne 14, 3) := by decide +kernel
theorem d_L_law_1351 : decode code 1351 = .ok (.aload_n 3, 1) := by decide +kernel
theorem d_L_law_1352 : decode code 1352 = .ok (.iconst 0, 1) := by decide +kernel
theorem d_L_law_1353 : decode code 1353 = .ok (.laload, 1) := by decide +kernel
theorem d_L_law_1354 : decode code 1354 = .ok (.lload 6, 2) := by decide +kernel
theorem d_L_law_1356 : decode code 1356 = .ok (.lcmp, 1) := by decide +kernel
theorem d_L_law_1357 : decode code 1357 = .ok (.ifCond .eq 5, 3) := by decide +kernel
theorem d_L_law_1360 : decode code 1360 = .ok (.iconst 0, 1) := by decide +kernel
theorem d_L_law_1361 : decode code 1361 = .ok (.ireturn, 1) := by decide +kernel
theorem d_L_law_1362 : decode code 1362 = .ok (.goto 59, 3) := by decide +kernel
theorem d_L_law_1365 : decode code 1365 = .ok (.aload_n 1, 1) := by decide +kernel
theorem d_L_law_1366 : decode code 1366 = .ok (.aload_n 0, 1) := by decide +kernel
theorem d_L_law_1367 : decode code 1367 = .ok (.iload 4, 2) := by decide +kernel
theorem d_L_law_1369 : decode code 1369 = .ok (.iconst 1, 1) := by decide +kernel
theorem d_L_law_1370 : decode code 1370 = .ok (.iadd, 1) := by decide +kernel
theorem d_L_law_1371 : decode code 1371 = .ok (.iaload, 1) := by decide +kernel
theorem d_L_law_1372 : decode code 1372 = .ok (.aload_n 3, 1) := by decide +kernel
theorem d_L_law_1373 : decode code 1373 = .ok (.invokestatic 164, 3) := by decide +kernel
theorem d_L_law_1376 : decode code 1376 = .ok (.istore 5, 2) := by decide +kernel
theorem d_L_law_1378 : decode code 1378 = .ok (.aload_n 2, 1) := by decide +kernel
theorem d_L_law_1379 : decode code 1379 = .ok (.aload_n 0, 1) := by decide +kernel
theorem d_L_law_1380 : decode code 1380 = .ok (.iload 4, 2) := by decide +kernel
theorem d_L_law_1382 : decode code 1382 = .ok (.iconst 1, 1) := by decide +kernel
theorem d_L_law_1383 : decode code 1383 = .ok (.iadd, 1) := by decide +kernel
theorem d_L_law_1384 : decode code 1384 = .ok (.iaload, 1) := by decide +kernel
theorem d_L_law_1385 : decode code 1385 = .ok (.invokevirtual 166, 3) := by decide +kernel
theorem d_L_law_1388 : decode code 1388 = .ok (.istore 6, 2) := by decide +kernel
theorem d_L_law_1390 : decode code 1390 = .ok (.aload_n 2, 1) := by decide +kernel
theorem d_L_law_1391 : decode code 1391 = .ok (.invokevirtual 99, 3) := by decide +kernel
theorem d_L_law_1394 : decode code 1394 = .ok (.iload 5, 2) := by decide +kernel
theorem d_L_law_1396 : decode code 1396 = .ok (.if_icmp .eq 5, 3) := by decide +kernel
theorem d_L_law_1399 : decode code 1399 = .ok (.iconst 0, 1) := by decide +kernel
theorem d_L_law_1400 : decode code 1400 = .ok (.ireturn, 1) := by decide +kernel
theorem d_L_law_1401 : decode code 1401 = .ok (.iload 5, 2) := by decide +kernel
theorem d_L_law_1403 : decode code 1403 = .ok (.ifCond .ne 15, 3) := by decide +kernel
theorem d_L_law_1406 : decode code 1406 = .ok (.aload_n 3, 1) := by decide +kernel
theorem d_L_law_1407 : decode code 1407 = .ok (.iconst 0, 1) := by decide +kernel
theorem d_L_law_1408 : decode code 1408 = .ok (.laload, 1) := by decide +kernel
theorem d_L_law_1409 : decode code 1409 = .ok (.iload 6, 2) := by decide +kernel
theorem d_L_law_1411 : decode code 1411 = .ok (.i2l, 1) := by decide +kernel
theorem d_L_law_1412 : decode code 1412 = .ok (.lcmp, 1) := by decide +kernel
theorem d_L_law_1413 : decode code 1413 = .ok (.ifCond .eq 5, 3) := by decide +kernel
theorem d_L_law_1416 : decode code 1416 = .ok (.iconst 0, 1) := by decide +kernel
theorem d_L_law_1417 : decode code 1417 = .ok (.ireturn, 1) := by decide +kernel
theorem d_L_law_1418 : decode code 1418 = .ok (.goto 3, 3) := by decide +kernel
theorem d_L_law_1421 : decode code 1421 = .ok (.iinc 4 4, 3) := by decide +kernel
theorem d_L_law_1424 : decode code 1424 = .ok (.goto (-1391), 3) := by decide +kernel
theorem d_L_law_1427 : decode code 1427 = .ok (.iconst 1, 1) := by decide +kernel
theorem d_L_law_1428 : decode code 1428 = .ok (.ireturn, 1) := by decide +kernel
