theorem d_law_law_1101 : decode code 1101 = .ok (.aload_n 0, 1) := by decide +kernel
theorem d_law_law_1102 : decode code 1102 = .ok (.iload_n 3, 1) := by decide +kernel
theorem d_law_law_1103 : decode code 1103 = .ok (.iconst 2, 1) := by decide +kernel
theorem d_law_law_1104 : decode code 1104 = .ok (.iadd, 1) := by decide +kernel
theorem d_law_law_1105 : decode code 1105 = .ok (.iaload, 1) := by decide +kernel
theorem d_law_law_1106 : decode code 1106 = .ok (.aload_n 0, 1) := by decide +kernel
theorem d_law_law_1107 : decode code 1107 = .ok (.iload_n 3, 1) := by decide +kernel
theorem d_law_law_1108 : decode code 1108 = .ok (.iconst 3, 1) := by decide +kernel
theorem d_law_law_1109 : decode code 1109 = .ok (.iadd, 1) := by decide +kernel
theorem d_law_law_1110 : decode code 1110 = .ok (.iaload, 1) := by decide +kernel
theorem d_law_law_1111 : decode code 1111 = .ok (.aload_n 0, 1) := by decide +kernel
theorem d_law_law_1112 : decode code 1112 = .ok (.iload_n 3, 1) := by decide +kernel
theorem d_law_law_1113 : decode code 1113 = .ok (.iconst 4, 1) := by decide +kernel
theorem d_law_law_1114 : decode code 1114 = .ok (.iadd, 1) := by decide +kernel
theorem d_law_law_1115 : decode code 1115 = .ok (.iaload, 1) := by decide +kernel
theorem d_law_law_1116 : decode code 1116 = .ok (.aload_n 0, 1) := by decide +kernel
theorem d_law_law_1117 : decode code 1117 = .ok (.iload_n 3, 1) := by decide +kernel
theorem d_law_law_1118 : decode code 1118 = .ok (.iconst 5, 1) := by decide +kernel
theorem d_law_law_1119 : decode code 1119 = .ok (.iadd, 1) := by decide +kernel
theorem d_law_law_1120 : decode code 1120 = .ok (.iaload, 1) := by decide +kernel
theorem d_law_law_1121 : decode code 1121 = .ok (.aload_n 0, 1) := by decide +kernel
theorem d_law_law_1122 : decode code 1122 = .ok (.iload_n 3, 1) := by decide +kernel
theorem d_law_law_1123 : decode code 1123 = .ok (.bipush 6, 2) := by decide +kernel
theorem d_law_law_1125 : decode code 1125 = .ok (.iadd, 1) := by decide +kernel
theorem d_law_law_1126 : decode code 1126 = .ok (.iaload, 1) := by decide +kernel
theorem d_law_law_1127 : decode code 1127 = .ok (.invokevirtual 104, 3) := by decide +kernel
theorem d_law_law_1130 : decode code 1130 = .ok (.if_icmp .eq 297, 3) := by decide +kernel
theorem d_law_law_1135 : decode code 1135 = .ok (.aload_n 1, 1) := by decide +kernel
theorem d_law_law_1136 : decode code 1136 = .ok (.aload_n 0, 1) := by decide +kernel
theorem d_law_law_1137 : decode code 1137 = .ok (.iload_n 3, 1) := by decide +kernel
theorem d_law_law_1138 : decode code 1138 = .ok (.iconst 1, 1) := by decide +kernel
theorem d_law_law_1139 : decode code 1139 = .ok (.iadd, 1) := by decide +kernel
theorem d_law_law_1140 : decode code 1140 = .ok (.iaload, 1) := by decide +kernel
theorem d_law_law_1141 : decode code 1141 = .ok (.aload_n 0, 1) := by decide +kernel
theorem d_law_law_1142 : decode code 1142 = .ok (.iload_n 3, 1) := by decide +kernel
theorem d_law_law_1143 : decode code 1143 = .ok (.iconst 2, 1) := by decide +kernel
theorem d_law_law_1144 : decode code 1144 = .ok (.iadd, 1) := by decide +kernel
theorem d_law_law_1145 : decode code 1145 = .ok (.iaload, 1) := by decide +kernel
theorem d_law_law_1146 : decode code 1146 = .ok (.invokevirtual 105, 3) := by decide +kernel
theorem d_law_law_1149 : decode code 1149 = .ok (.aload_n 2, 1) := by decide +kernel
theorem d_law_law_1150 : decode code 1150 = .ok (.aload_n 0, 1) := by decide +kernel
theorem d_law_law_1151 : decode code 1151 = .ok (.iload_n 3, 1) := by decide +kernel
theorem d_law_law_1152 : decode code 1152 = .ok (.iconst 1, 1) := by decide +kernel
theorem d_law_law_1153 : decode code 1153 = .ok (.iadd, 1) := by decide +kernel
theorem d_law_law_1154 : decode code 1154 = .ok (.iaload, 1) := by decide +kernel
theorem d_law_law_1155 : decode code 1155 = .ok (.aload_n 0, 1) := by decide +kernel
theorem d_law_law_1156 : decode code 1156 = .ok (.iload_n 3, 1) := by decide +kernel
theorem d_law_law_1157 : decode code 1157 = .ok (.iconst 2, 1) := by decide +kernel
theorem d_law_law_1158 : decode code 1158 = .ok (.iadd, 1) := by decide +kernel
theorem d_law_law_1159 : decode code 1159 = .ok (.iaload, 1) := by decide +kernel
theorem d_law_law_1160 : decode code 1160 = .ok (.invokevirtual 108, 3) := by decide +kernel
theorem d_law_law_1163 : decode code 1163 = .ok (.if_icmp .eq 264, 3) := by decide +kernel
theorem d_law_law_1168 : decode code 1168 = .ok (.aload_n 1, 1) := by decide +kernel
theorem d_law_law_1169 : decode code 1169 = .ok (.aload_n 0, 1) := by decide +kernel
theorem d_law_law_1170 : decode code 1170 = .ok (.iload_n 3, 1) := by decide +kernel
theorem d_law_law_1171 : decode code 1171 = .ok (.iconst 1, 1) := by decide +kernel
theorem d_law_law_1172 : decode code 1172 = .ok (.iadd, 1) := by decide +kernel
theorem d_law_law_1173 : decode code 1173 = .ok (.iaload, 1) := by decide +kernel
theorem d_law_law_1174 : decode code 1174 = .ok (.aload_n 0, 1) := by decide +kernel
theorem d_law_law_1175 : decode code 1175 = .ok (.iload_n 3, 1) := by decide +kernel
theorem d_law_law_1176 : decode code 1176 = .ok (.iconst 2, 1) := by decide +kernel
theorem d_law_law_1177 : decode code 1177 = .ok (.iadd, 1) := by decide +kernel
theorem d_law_law_1178 : decode code 1178 = .ok (.iaload, 1) := by decide +kernel
theorem d_law_law_1179 : decode code 1179 = .ok (.aload_n 0, 1) := by decide +kernel
theorem d_law_law_1180 : decode code 1180 = .ok (.iload_n 3, 1) := by decide +kernel
theorem d_law_law_1181 : decode code 1181 = .ok (.iconst 3, 1) := by decide +kernel
theorem d_law_law_1182 : decode code 1182 = .ok (.iadd, 1) := by decide +kernel
theorem d_law_law_1183 : decode code 1183 = .ok (.iaload, 1) := by decide +kernel
theorem d_law_law_1184 : decode code 1184 = .ok (.aload_n 0, 1) := by decide +kernel
theorem d_law_law_1185 : decode code 1185 = .ok (.iload_n 3, 1) := by decide +kernel
theorem d_law_law_1186 : decode code 1186 = .ok (.iconst 4, 1) := by decide +kernel
theorem d_law_law_1187 : decode code 1187 = .ok (.iadd, 1) := by decide +kernel
theorem d_law_law_1188 : decode code 1188 = .ok (.iaload, 1) := by decide +kernel
theorem d_law_law_1189 : decode code 1189 = .ok (.invokevirtual 109, 3) := by decide +kernel
theorem d_law_law_1192 : decode code 1192 = .ok (.aload_n 2, 1) := by decide +kernel
theorem d_law_law_1193 : decode code 1193 = .ok (.aload_n 0, 1) := by decide +kernel
theorem d_law_law_1194 : decode code 1194 = .ok (.iload_n 3, 1) := by decide +kernel
theorem d_law_law_1195 : decode code 1195 = .ok (.iconst 1, 1) := by decide +kernel
theorem d_law_law_1196 : decode code 1196 = .ok (.iadd, 1) := by decide +kernel
theorem d_law_law_1197 : decode code 1197 = .ok (.iaload, 1) := by decide +kernel
theorem d_law_law_1198 : decode code 1198 = .ok (.aload_n 0, 1) := by decide +kernel
theorem d_law_law_1199 : decode code 1199 = .ok (.iload_n 3, 1) := by decide +kernel
theorem d_law_law_1200 : decode code 1200 = .ok (.iconst 2, 1) := by decide +kernel
theorem d_law_law_1201 : decode code 1201 = .ok (.iadd, 1) := by decide +kernel
theorem d_law_law_1202 : decode code 1202 = .ok (.iaload, 1) := by decide +kernel
theorem d_law_law_1203 : decode code 1203 = .ok (.aload_n 0, 1) := by decide +kernel
theorem d_law_law_1204 : decode code 1204 = .ok (.iload_n 3, 1) := by decide +kernel
theorem d_law_law_1205 : decode code 1205 = .ok (.iconst 3, 1) := by decide +kernel
theorem d_law_law_1206 : decode code 1206 = .ok (.iadd, 1) := by decide +kernel
theorem d_law_law_1207 : decode code 1207 = .ok (.iaload, 1) := by decide +kernel
theorem d_law_law_1208 : decode code 1208 = .ok (.aload_n 0, 1) := by decide +kernel
theorem d_law_law_1209 : decode code 1209 = .ok (.iload_n 3, 1) := by decide +kernel
theorem d_law_law_1210 : decode code 1210 = .ok (.iconst 4, 1) := by decide +kernel
theorem d_law_law_1211 : decode code 1211 = .ok (.iadd, 1) := by decide +kernel
theorem d_law_law_1212 : decode code 1212 = .ok (.iaload, 1) := by decide +kernel
theorem d_law_law_1213 : decode code 1213 = .ok (.invokevirtual 112, 3) := by decide +kernel
theorem d_law_law_1216 : decode code 1216 = .ok (.if_icmp .eq 211, 3) := by decide +kernel
theorem d_law_law_1221 : decode code 1221 = .ok (.aload_n 1, 1) := by decide +kernel
theorem d_law_law_1222 : decode code 1222 = .ok (.aload_n 0, 1) := by decide +kernel
theorem d_law_law_1223 : decode code 1223 = .ok (.iload_n 3, 1) := by decide +kernel
theorem d_law_law_1224 : decode code 1224 = .ok (.iconst 1, 1) := by decide +kernel
theorem d_law_law_1225 : decode code 1225 = .ok (.iadd, 1) := by decide +kernel
theorem d_law_law_1226 : decode code 1226 = .ok (.iaload, 1) := by decide +kernel
theorem d_law_law_1227 : decode code 1227 = .ok (.aload_n 0, 1) := by decide +kernel
theorem d_law_law_1228 : decode code 1228 = .ok (.iload_n 3, 1) := by decide +kernel
theorem d_law_law_1229 : decode code 1229 = .ok (.iconst 2, 1) := by decide +kernel
theorem d_law_law_1230 : decode code 1230 = .ok (.iadd, 1) := by decide +kernel
theorem d_law_law_1231 : decode code 1231 = .ok (.iaload, 1) := by decide +kernel
theorem d_law_law_1232 : decode code 1232 = .ok (.aload_n 0, 1) := by decide +kernel
theorem d_law_law_1233 : decode code 1233 = .ok (.iload_n 3, 1) := by decide +kernel
theorem d_law_law_1234 : decode code 1234 = .ok (.iconst 3, 1) := by decide +kernel
theorem d_law_law_1235 : decode code 1235 = .ok (.iadd, 1) := by decide +kernel
theorem d_law_law_1236 : decode code 1236 = .ok (.iaload, 1) := by decide +kernel
theorem d_law_law_1237 : decode code 1237 = .ok (.invokevirtual 113, 3) := by decide +kernel
theorem d_law_law_1240 : decode code 1240 = .ok (.aload_n 2, 1) := by decide +kernel
theorem d_law_law_1241 : decode code 1241 = .ok (.aload_n 0, 1) := by decide +kernel
theorem d_law_law_1242 : decode code 1242 = .ok (.iload_n 3, 1) := by decide +kernel
theorem d_law_law_1243 : decode code 1243 = .ok (.iconst 1, 1) := by decide +kernel
theorem d_law_law_1244 : decode code 1244 = .ok (.iadd, 1) := by decide +kernel
theorem d_law_law_1245 : decode code 1245 = .ok (.iaload, 1) := by decide +kernel
theorem d_law_law_1246 : decode code 1246 = .ok (.aload_n 0, 1) := by decide +kernel
theorem d_law_law_1247 : decode code 1247 = .ok (.iload_n 3, 1) := by decide +kernel
theorem d_law_law_1248 : decode code 1248 = .ok (.iconst 2, 1) := by decide +kernel
theorem d_law_law_1249 : decode code 1249 = .ok (.iadd, 1) := by decide +kernel
theorem d_law_law_1250 : decode code 1250 = .ok (.iaload, 1) := by decide +kernel
theorem d_law_law_1251 : decode code 1251 = .ok (.aload_n 0, 1) := by decide +kernel
theorem d_law_law_1252 : decode code 1252 = .ok (.iload_n 3, 1) := by decide +kernel
theorem d_law_law_1253 : decode code 1253 = .ok (.iconst 3, 1) := by decide +kernel
theorem d_law_law_1254 : decode code 1254 = .ok (.iadd, 1) := by decide +kernel
theorem d_law_law_1255 : decode code 1255 = .ok (.iaload, 1) := by decide +kernel
theorem d_law_law_1256 : decode code 1256 = .ok (.invokevirtual 116, 3) := by decide +kernel
theorem d_law_law_1259 : decode code 1259 = .ok (.if_icmp .eq 168, 3) := by decide +kernel
theorem d_law_law_1264 : decode code 1264 = .ok (.aload_n 1, 1) := by decide +kernel
theorem d_law_law_1265 : decode code 1265 = .ok (.aload_n 0, 1) := by decide +kernel
theorem d_law_law_1266 : decode code 1266 = .ok (.iload_n 3, 1) := by decide +kernel
theorem d_law_law_1267 : decode code 1267 = .ok (.iconst 1, 1) := by decide +kernel
theorem d_law_law_1268 : decode code 1268 = .ok (.iadd, 1) := by decide +kernel
theorem d_law_law_1269 : decode code 1269 = .ok (.iaload, 1) := by decide +kernel
theorem d_law_law_1270 : decode code 1270 = .ok (.aload_n 0, 1) := by decide +kernel
theorem d_law_law_1271 : decode code 1271 = .ok (.iload_n 3, 1) := by decide +kernel
theorem d_law_law_1272 : decode code 1272 = .ok (.iconst 2, 1) := by decide +kernel
theorem d_law_law_1273 : decode code 1273 = .ok (.iadd, 1) := by decide +kernel
theorem d_law_law_1274 : decode code 1274 = .ok (.iaload, 1) := by decide +kernel
theorem d_law_law_1275 : decode code 1275 = .ok (.aload_n 0, 1) := by decide +kernel
theorem d_law_law_1276 : decode code 1276 = .ok (.iload_n 3, 1) := by decide +kernel
theorem d_law_law_1277 : decode code 1277 = .ok (.iconst 3, 1) := by decide +kernel
theorem d_law_law_1278 : decode code 1278 = .ok (.iadd, 1) := by decide +kernel
theorem d_law_law_1279 : decode code 1279 = .ok (.iaload, 1) := by decide +kernel
theorem d_law_law_1280 : decode code 1280 = .ok (.aload_n 0, 1) := by decide +kernel
theorem d_law_law_1281 : decode code 1281 = .ok (.iload_n 3, 1) := by decide +kernel
theorem d_law_law_1282 : decode code 1282 = .ok (.iconst 4, 1) := by decide +kernel
theorem d_law_law_1283 : decode code 1283 = .ok (.iadd, 1) := by decide +kernel
theorem d_law_law_1284 : decode code 1284 = .ok (.iaload, 1) := by decide +kernel
theorem d_law_law_1285 : decode code 1285 = .ok (.aload_n 0, 1) := by decide +kernel
theorem d_law_law_1286 : decode code 1286 = .ok (.iload_n 3, 1) := by decide +kernel
theorem d_law_law_1287 : decode code 1287 = .ok (.iconst 5, 1) := by decide +kernel
theorem d_law_law_1288 : decode code 1288 = .ok (.iadd, 1) := by decide +kernel
theorem d_law_law_1289 : decode code 1289 = .ok (.iaload, 1) := by decide +kernel
theorem d_law_law_1290 : decode code 1290 = .ok (.invokevirtual 117, 3) := by decide +kernel
theorem d_law_law_1293 : decode code 1293 = .ok (.aload_n 2, 1) := by decide +kernel
theorem d_law_law_1294 : decode code 1294 = .ok (.aload_n 0, 1) := by decide +kernel
theorem d_law_law_1295 : decode code 1295 = .ok (.iload_n 3, 1) := by decide +kernel
theorem d_law_law_1296 : decode code 1296 = .ok (.iconst 1, 1) := by decide +kernel
theorem d_law_law_1297 : decode code 1297 = .ok (.iadd, 1) := by decide +kernel
theorem d_law_law_1298 : decode code 1298 = .ok (.iaload, 1) := by decide +kernel
theorem d_law_law_1299 : decode code 1299 = .ok (.aload_n 0, 1) := by decide +kernel
theorem d_law_law_1300 : decode code 1300 = .ok (.iload_n 3, 1) := by decide +kernel
theorem d_law_law_1301 : decode code 1301 = .ok (.iconst 2, 1) := by decide +kernel
theorem d_law_law_1302 : decode code 1302 = .ok (.iadd, 1) := by decide +kernel
theorem d_law_law_1303 : decode code 1303 = .ok (.iaload, 1) := by decide +kernel
theorem d_law_law_1304 : decode code 1304 = .ok (.aload_n 0, 1) := by decide +kernel
theorem d_law_law_1305 : decode code 1305 = .ok (.iload_n 3, 1) := by decide +kernel
theorem d_law_law_1306 : decode code 1306 = .ok (.iconst 3, 1) := by decide +kernel
theorem d_law_law_1307 : decode code 1307 = .ok (.iadd, 1) := by decide +kernel
theorem d_law_law_1308 : decode code 1308 = .ok (.iaload, 1) := by decide +kernel
theorem d_law_law_1309 : decode code 1309 = .ok (.aload_n 0, 1) := by decide +kernel
theorem d_law_law_1310 : decode code 1310 = .ok (.iload_n 3, 1) := by decide +kernel
theorem d_law_law_1311 : decode code 1311 = .ok (.iconst 4, 1) := by decide +kernel
theorem d_law_law_1312 : decode code 1312 = .ok (.iadd, 1) := by decide +kernel
theorem d_law_law_1313 : decode code 1313 = .ok (.iaload, 1) := by decide +kernel
theorem d_law_law_1314 : decode code 1314 = .ok (.aload_n 0, 1) := by decide +kernel
theorem d_law_law_1315 : decode code 1315 = .ok (.iload_n 3, 1) := by decide +kernel
theorem d_law_law_1316 : decode code 1316 = .ok (.iconst 5, 1) := by decide +kernel
theorem d_law_law_1317 : decode code 1317 = .ok (.iadd, 1) := by decide +kernel
theorem d_law_law_1318 : decode code 1318 = .ok (.iaload, 1) := by decide +kernel
theorem d_law_law_1319 : decode code 1319 = .ok (.invokevirtual 121, 3) := by decide +kernel
theorem d_law_law_1322 : decode code 1322 = .ok (.lcmp, 1) := by decide +kernel
theorem d_law_law_1323 : decode code 1323 = .ok (.ifCond .eq 104, 3) := by decide +kernel
theorem d_law_law_1328 : decode code 1328 = .ok (.aload_n 1, 1) := by decide +kernel
theorem d_law_law_1329 : decode code 1329 = .ok (.aload_n 0, 1) := by decide +kernel
theorem d_law_law_1330 : decode code 1330 = .ok (.iload_n 3, 1) := by decide +kernel
theorem d_law_law_1331 : decode code 1331 = .ok (.iconst 1, 1) := by decide +kernel
theorem d_law_law_1332 : decode code 1332 = .ok (.iadd, 1) := by decide +kernel
theorem d_law_law_1333 : decode code 1333 = .ok (.iaload, 1) := by decide +kernel
theorem d_law_law_1334 : decode code 1334 = .ok (.aload_n 0, 1) := by decide +kernel
theorem d_law_law_1335 : decode code 1335 = .ok (.iload_n 3, 1) := by decide +kernel
theorem d_law_law_1336 : decode code 1336 = .ok (.iconst 2, 1) := by decide +kernel
theorem d_law_law_1337 : decode code 1337 = .ok (.iadd, 1) := by decide +kernel
theorem d_law_law_1338 : decode code 1338 = .ok (.iaload, 1) := by decide +kernel
theorem d_law_law_1339 : decode code 1339 = .ok (.aload_n 0, 1) := by decide +kernel
theorem d_law_law_1340 : decode code 1340 = .ok (.iload_n 3, 1) := by decide +kernel
theorem d_law_law_1341 : decode code 1341 = .ok (.iconst 3, 1) := by decide +kernel
theorem d_law_law_1342 : decode code 1342 = .ok (.iadd, 1) := by decide +kernel
theorem d_law_law_1343 : decode code 1343 = .ok (.iaload, 1) := by decide +kernel
theorem d_law_law_1344 : decode code 1344 = .ok (.invokevirtual 122, 3) := by decide +kernel
theorem d_law_law_1347 : decode code 1347 = .ok (.aload_n 2, 1) := by decide +kernel
theorem d_law_law_1348 : decode code 1348 = .ok (.aload_n 0, 1) := by decide +kernel
theorem d_law_law_1349 : decode code 1349 = .ok (.iload_n 3, 1) := by decide +kernel
theorem d_law_law_1350 : decode code 1350 = .ok (.iconst 1, 1) := by decide +kernel
theorem d_law_law_1351 : decode code 1351 = .ok (.iadd, 1) := by decide +kernel
theorem d_law_law_1352 : decode code 1352 = .ok (.iaload, 1) := by decide +kernel
theorem d_law_law_1353 : decode code 1353 = .ok (.aload_n 0, 1) := by decide +kernel
theorem d_law_law_1354 : decode code 1354 = .ok (.iload_n 3, 1) := by decide +kernel
theorem d_law_law_1355 : decode code 1355 = .ok (.iconst 2, 1) := by decide +kernel
theorem d_law_law_1356 : decode code 1356 = .ok (.iadd, 1) := by decide +kernel
theorem d_law_law_1357 : decode code 1357 = .ok (.iaload, 1) := by decide +kernel
theorem d_law_law_1358 : decode code 1358 = .ok (.aload_n 0, 1) := by decide +kernel
theorem d_law_law_1359 : decode code 1359 = .ok (.iload_n 3, 1) := by decide +kernel
theorem d_law_law_1360 : decode code 1360 = .ok (.iconst 3, 1) := by decide +kernel
theorem d_law_law_1361 : decode code 1361 = .ok (.iadd, 1) := by decide +kernel
theorem d_law_law_1362 : decode code 1362 = .ok (.iaload, 1) := by decide +kernel
theorem d_law_law_1363 : decode code 1363 = .ok (.invokevirtual 125, 3) := by decide +kernel
theorem d_law_law_1366 : decode code 1366 = .ok (.if_icmp .eq 61, 3) := by decide +kernel
theorem d_law_law_1371 : decode code 1371 = .ok (.aload_n 1, 1) := by decide +kernel
theorem d_law_law_1372 : decode code 1372 = .ok (.aload_n 0, 1) := by decide +kernel
theorem d_law_law_1373 : decode code 1373 = .ok (.iload_n 3, 1) := by decide +kernel
theorem d_law_law_1374 : decode code 1374 = .ok (.iconst 1, 1) := by decide +kernel
theorem d_law_law_1375 : decode code 1375 = .ok (.iadd, 1) := by decide +kernel
theorem d_law_law_1376 : decode code 1376 = .ok (.iaload, 1) := by decide +kernel
theorem d_law_law_1377 : decode code 1377 = .ok (.aload_n 0, 1) := by decide +kernel
theorem d_law_law_1378 : decode code 1378 = .ok (.iload_n 3, 1) := by decide +kernel
theorem d_law_law_1379 : decode code 1379 = .ok (.iconst 2, 1) := by decide +kernel
theorem d_law_law_1380 : decode code 1380 = .ok (.iadd, 1) := by decide +kernel
theorem d_law_law_1381 : decode code 1381 = .ok (.iaload, 1) := by decide +kernel
theorem d_law_law_1382 : decode code 1382 = .ok (.invokevirtual 126, 3) := by decide +kernel
theorem d_law_law_1385 : decode code 1385 = .ok (.aload_n 2, 1) := by decide +kernel
theorem d_law_law_1386 : decode code 1386 = .ok (.aload_n 0, 1) := by decide +kernel
theorem d_law_law_1387 : decode code 1387 = .ok (.iload_n 3, 1) := by decide +kernel
theorem d_law_law_1388 : decode code 1388 = .ok (.iconst 1, 1) := by decide +kernel
theorem d_law_law_1389 : decode code 1389 = .ok (.iadd, 1) := by decide +kernel
theorem d_law_law_1390 : decode code 1390 = .ok (.iaload, 1) := by decide +kernel
theorem d_law_law_1391 : decode code 1391 = .ok (.aload_n 0, 1) := by decide +kernel
theorem d_law_law_1392 : decode code 1392 = .ok (.iload_n 3, 1) := by decide +kernel
theorem d_law_law_1393 : decode code 1393 = .ok (.iconst 2, 1) := by decide +kernel
theorem d_law_law_1394 : decode code 1394 = .ok (.iadd, 1) := by decide +kernel
theorem d_law_law_1395 : decode code 1395 = .ok (.iaload, 1) := by decide +kernel
theorem d_law_law_1396 : decode code 1396 = .ok (.invokevirtual 129, 3) := by decide +kernel
theorem d_law_law_1399 : decode code 1399 = .ok (.if_icmp .eq 28, 3) := by decide +kernel
theorem d_law_law_1404 : decode code 1404 = .ok (.aload_n 1, 1) := by decide +kernel
theorem d_law_law_1405 : decode code 1405 = .ok (.aload_n 0, 1) := by decide +kernel
theorem d_law_law_1406 : decode code 1406 = .ok (.iload_n 3, 1) := by decide +kernel
theorem d_law_law_1407 : decode code 1407 = .ok (.iconst 1, 1) := by decide +kernel
theorem d_law_law_1408 : decode code 1408 = .ok (.iadd, 1) := by decide +kernel
theorem d_law_law_1409 : decode code 1409 = .ok (.iaload, 1) := by decide +kernel
theorem d_law_law_1410 : decode code 1410 = .ok (.invokevirtual 130, 3) := by decide +kernel
theorem d_law_law_1413 : decode code 1413 = .ok (.aload_n 2, 1) := by decide +kernel
theorem d_law_law_1414 : decode code 1414 = .ok (.aload_n 0, 1) := by decide +kernel
theorem d_law_law_1415 : decode code 1415 = .ok (.iload_n 3, 1) := by decide +kernel
theorem d_law_law_1416 : decode code 1416 = .ok (.iconst 1, 1) := by decide +kernel
theorem d_law_law_1417 : decode code 1417 = .ok (.iadd, 1) := by decide +kernel
theorem d_law_law_1418 : decode code 1418 = .ok (.iaload, 1) := by decide +kernel
theorem d_law_law_1419 : decode code 1419 = .ok (.invokevirtual 133, 3) := by decide +kernel
theorem d_law_law_1422 : decode code 1422 = .ok (.if_icmp .eq 5, 3) := by decide +kernel
theorem d_law_law_1427 : decode code 1427 = .ok (.iinc 3 7, 3) := by decide +kernel
theorem d_law_law_1430 : decode code 1430 = .ok (.goto (-1412), 3) := by decide +kernel
theorem d_law_law_1433 : decode code 1433 = .ok (.iconst 1, 1) := by decide +kernel
theorem d_law_law_1434 : decode code 1434 = .ok (.ireturn, 1) := by decide +kernel
theorem d_NF_init_0 : decode b_NF_init 0 = .ok (.aload_n 0, 1) := by decide +kernel
theorem d_NF_init_1 : decode b_NF_init 1 = .ok (.invokespecial 1, 3) := by decide +kernel
theorem d_NF_init_4 : decode b_NF_init 4 = .ok (.sipush 1600, 3) := by decide +kernel
theorem d_NF_init_7 : decode b_NF_init 7 = .ok (.newarray .byte, 2) := by decide +kernel
theorem d_NF_init_9 : decode b_NF_init 9 = .ok (.astore_n 1, 1) := by decide +kernel
theorem d_NF_init_10 : decode b_NF_init 10 = .ok (.new 9, 3) := by decide +kernel
theorem d_NF_init_13 : decode b_NF_init 13 = .ok (.dup, 1) := by decide +kernel
theorem d_NF_init_14 : decode b_NF_init 14 = .ok (.invokespecial 11, 3) := by decide +kernel
theorem d_NF_init_17 : decode b_NF_init 17 = .ok (.astore_n 2, 1) := by decide +kernel
theorem d_NF_init_18 : decode b_NF_init 18 = .ok (.new 12, 3) := by decide +kernel
theorem d_NF_init_21 : decode b_NF_init 21 = .ok (.dup, 1) := by decide +kernel
theorem d_NF_init_22 : decode b_NF_init 22 = .ok (.aload_n 2, 1) := by decide +kernel
theorem d_NF_init_23 : decode b_NF_init 23 = .ok (.invokespecial 14, 3) := by decide +kernel
theorem d_NF_init_26 : decode b_NF_init 26 = .ok (.astore_n 3, 1) := by decide +kernel
theorem d_NF_init_27 : decode b_NF_init 27 = .ok (.aload_n 0, 1) := by decide +kernel
theorem d_NF_init_28 : decode b_NF_init 28 = .ok (.aload_n 1, 1) := by decide +kernel
theorem d_NF_init_29 : decode b_NF_init 29 = .ok (.putfield 17, 3) := by decide +kernel
theorem d_NF_init_32 : decode b_NF_init 32 = .ok (.aload_n 0, 1) := by decide +kernel
theorem d_NF_init_33 : decode b_NF_init 33 = .ok (.aload_n 2, 1) := by decide +kernel
theorem d_NF_init_34 : decode b_NF_init 34 = .ok (.putfield 21, 3) := by decide +kernel
theorem d_NF_init_37 : decode b_NF_init 37 = .ok (.aload_n 0, 1) := by decide +kernel
theorem d_NF_init_38 : decode b_NF_init 38 = .ok (.new 9, 3) := by decide +kernel
theorem d_NF_init_41 : decode b_NF_init 41 = .ok (.dup, 1) := by decide +kernel
theorem d_NF_init_42 : decode b_NF_init 42 = .ok (.invokespecial 11, 3) := by decide +kernel
theorem d_NF_init_45 : decode b_NF_init 45 = .ok (.putfield 25, 3) := by decide +kernel
theorem d_NF_init_48 : decode b_NF_init 48 = .ok (.aload_n 0, 1) := by decide +kernel
theorem d_NF_init_49 : decode b_NF_init 49 = .ok (.new 28, 3) := by decide +kernel
theorem d_NF_init_52 : decode b_NF_init 52 = .ok (.dup, 1) := by decide +kernel
theorem d_NF_init_53 : decode b_NF_init 53 = .ok (.new 30, 3) := by decide +kernel
theorem d_NF_init_56 : decode b_NF_init 56 = .ok (.dup, 1) := by decide +kernel
theorem d_NF_init_57 : decode b_NF_init 57 = .ok (.aload_n 1, 1) := by decide +kernel
theorem d_NF_init_58 : decode b_NF_init 58 = .ok (.invokespecial 32, 3) := by decide +kernel
theorem d_NF_init_61 : decode b_NF_init 61 = .ok (.invokespecial 35, 3) := by decide +kernel
theorem d_NF_init_64 : decode b_NF_init 64 = .ok (.putfield 38, 3) := by decide +kernel
theorem d_NF_init_67 : decode b_NF_init 67 = .ok (.aload_n 0, 1) := by decide +kernel
theorem d_NF_init_68 : decode b_NF_init 68 = .ok (.new 42, 3) := by decide +kernel
theorem d_NF_init_71 : decode b_NF_init 71 = .ok (.dup, 1) := by decide +kernel
theorem d_NF_init_72 : decode b_NF_init 72 = .ok (.invokespecial 44, 3) := by decide +kernel
theorem d_NF_init_75 : decode b_NF_init 75 = .ok (.putfield 45, 3) := by decide +kernel
theorem d_NF_init_78 : decode b_NF_init 78 = .ok (.aload_n 0, 1) := by decide +kernel
theorem d_NF_init_79 : decode b_NF_init 79 = .ok (.aload_n 3, 1) := by decide +kernel
theorem d_NF_init_80 : decode b_NF_init 80 = .ok (.putfield 49, 3) := by decide +kernel
theorem d_NF_init_83 : decode b_NF_init 83 = .ok (.aload_n 0, 1) := by decide +kernel
theorem d_NF_init_84 : decode b_NF_init 84 = .ok (.new 53, 3) := by decide +kernel
theorem d_NF_init_87 : decode b_NF_init 87 = .ok (.dup, 1) := by decide +kernel
theorem d_NF_init_88 : decode b_NF_init 88 = .ok (.aload_n 3, 1) := by decide +kernel
theorem d_NF_init_89 : decode b_NF_init 89 = .ok (.invokespecial 55, 3) := by decide +kernel
theorem d_NF_init_92 : decode b_NF_init 92 = .ok (.putfield 58, 3) := by decide +kernel
theorem d_NF_init_95 : decode b_NF_init 95 = .ok (.aload_n 0, 1) := by decide +kernel
theorem d_NF_init_96 : decode b_NF_init 96 = .ok (.new 62, 3) := by decide +kernel
theorem d_NF_init_99 : decode b_NF_init 99 = .ok (.dup, 1) := by decide +kernel
theorem d_NF_init_100 : decode b_NF_init 100 = .ok (.invokespecial 64, 3) := by decide +kernel
theorem d_NF_init_103 : decode b_NF_init 103 = .ok (.putfield 65, 3) := by decide +kernel
theorem d_NF_init_106 : decode b_NF_init 106 = .ok (.aload_n 0, 1) := by decide +kernel
theorem d_NF_init_107 : decode b_NF_init 107 = .ok (.bipush 8, 2) := by decide +kernel
theorem d_NF_init_109 : decode b_NF_init 109 = .ok (.newarray .int, 2) := by decide +kernel
theorem d_NF_init_111 : decode b_NF_init 111 = .ok (.putfield 69, 3) := by decide +kernel
theorem d_NF_init_114 : decode b_NF_init 114 = .ok (.aload_n 0, 1) := by decide +kernel
theorem d_NF_init_115 : decode b_NF_init 115 = .ok (.bipush 8, 2) := by decide +kernel
theorem d_NF_init_117 : decode b_NF_init 117 = .ok (.newarray .int, 2) := by decide +kernel
theorem d_NF_init_119 : decode b_NF_init 119 = .ok (.putfield 73, 3) := by decide +kernel
theorem d_NF_init_122 : decode b_NF_init 122 = .ok (.return_, 1) := by decide +kernel
theorem d_NF_about_0 : decode b_NF_about 0 = .ok (.iload_n 1, 1) := by decide +kernel
theorem d_NF_about_1 : decode b_NF_about 1 = .ok (.tableswitch 138 0 8 #[51, 62, 73, 84, 95, 106, 117, 125, 133], 51) := by decide +kernel
theorem d_NF_about_52 : decode b_NF_about 52 = .ok (.aload_n 0, 1) := by decide +kernel
theorem d_NF_about_53 : decode b_NF_about 53 = .ok (.getfield 21, 3) := by decide +kernel
theorem d_NF_about_56 : decode b_NF_about 56 = .ok (.getfield 193, 3) := by decide +kernel
theorem d_NF_about_59 : decode b_NF_about 59 = .ok (.getfield 282, 3) := by decide +kernel
theorem d_NF_about_62 : decode b_NF_about 62 = .ok (.ireturn, 1) := by decide +kernel
theorem d_NF_about_63 : decode b_NF_about 63 = .ok (.aload_n 0, 1) := by decide +kernel
theorem d_NF_about_64 : decode b_NF_about 64 = .ok (.getfield 21, 3) := by decide +kernel
theorem d_NF_about_67 : decode b_NF_about 67 = .ok (.getfield 206, 3) := by decide +kernel
theorem d_NF_about_70 : decode b_NF_about 70 = .ok (.getfield 210, 3) := by decide +kernel
theorem d_NF_about_73 : decode b_NF_about 73 = .ok (.ireturn, 1) := by decide +kernel
theorem d_NF_about_74 : decode b_NF_about 74 = .ok (.aload_n 0, 1) := by decide +kernel
theorem d_NF_about_75 : decode b_NF_about 75 = .ok (.getfield 21, 3) := by decide +kernel
theorem d_NF_about_78 : decode b_NF_about 78 = .ok (.getfield 141, 3) := by decide +kernel
theorem d_NF_about_81 : decode b_NF_about 81 = .ok (.getfield 241, 3) := by decide +kernel
theorem d_NF_about_84 : decode b_NF_about 84 = .ok (.ireturn, 1) := by decide +kernel
theorem d_NF_about_85 : decode b_NF_about 85 = .ok (.aload_n 0, 1) := by decide +kernel
theorem d_NF_about_86 : decode b_NF_about 86 = .ok (.getfield 21, 3) := by decide +kernel
theorem d_NF_about_89 : decode b_NF_about 89 = .ok (.getfield 206, 3) := by decide +kernel
theorem d_NF_about_92 : decode b_NF_about 92 = .ok (.getfield 283, 3) := by decide +kernel
theorem d_NF_about_95 : decode b_NF_about 95 = .ok (.ireturn, 1) := by decide +kernel
theorem d_NF_about_96 : decode b_NF_about 96 = .ok (.aload_n 0, 1) := by decide +kernel
theorem d_NF_about_97 : decode b_NF_about 97 = .ok (.getfield 21, 3) := by decide +kernel
theorem d_NF_about_100 : decode b_NF_about 100 = .ok (.getfield 111, 3) := by decide +kernel
theorem d_NF_about_103 : decode b_NF_about 103 = .ok (.getfield 231, 3) := by decide +kernel
theorem d_NF_about_106 : decode b_NF_about 106 = .ok (.ireturn, 1) := by decide +kernel
theorem d_NF_about_107 : decode b_NF_about 107 = .ok (.aload_n 0, 1) := by decide +kernel
theorem d_NF_about_108 : decode b_NF_about 108 = .ok (.getfield 21, 3) := by decide +kernel
theorem d_NF_about_111 : decode b_NF_about 111 = .ok (.getfield 111, 3) := by decide +kernel
theorem d_NF_about_114 : decode b_NF_about 114 = .ok (.getfield 286, 3) := by decide +kernel
theorem d_NF_about_117 : decode b_NF_about 117 = .ok (.ireturn, 1) := by decide +kernel
theorem d_NF_about_118 : decode b_NF_about 118 = .ok (.aload_n 0, 1) := by decide +kernel
theorem d_NF_about_119 : decode b_NF_about 119 = .ok (.getfield 45, 3) := by decide +kernel
theorem d_NF_about_122 : decode b_NF_about 122 = .ok (.getfield 289, 3) := by decide +kernel
theorem d_NF_about_125 : decode b_NF_about 125 = .ok (.ireturn, 1) := by decide +kernel
theorem d_NF_about_126 : decode b_NF_about 126 = .ok (.aload_n 0, 1) := by decide +kernel
theorem d_NF_about_127 : decode b_NF_about 127 = .ok (.getfield 45, 3) := by decide +kernel
theorem d_NF_about_130 : decode b_NF_about 130 = .ok (.getfield 290, 3) := by decide +kernel
theorem d_NF_about_133 : decode b_NF_about 133 = .ok (.ireturn, 1) := by decide +kernel
theorem d_NF_about_134 : decode b_NF_about 134 = .ok (.aload_n 0, 1) := by decide +kernel
theorem d_NF_about_135 : decode b_NF_about 135 = .ok (.getfield 76, 3) := by decide +kernel
theorem d_NF_about_138 : decode b_NF_about 138 = .ok (.ireturn, 1) := by decide +kernel
theorem d_NF_about_139 : decode b_NF_about 139 = .ok (.iconst (-1), 1) := by decide +kernel
theorem d_NF_about_140 : decode b_NF_about 140 = .ok (.ireturn, 1) := by decide +kernel
theorem d_NF_alive_0 : decode b_NF_alive 0 = .ok (.aload_n 0, 1) := by decide +kernel
theorem d_NF_alive_1 : decode b_NF_alive 1 = .ok (.iload_n 1, 1) := by decide +kernel
theorem d_NF_alive_2 : decode b_NF_alive 2 = .ok (.invokevirtual 104, 3) := by decide +kernel
theorem d_NF_alive_5 : decode b_NF_alive 5 = .ok (.ifCond .eq 10, 3) := by decide +kernel
theorem d_NF_alive_15 : decode b_NF_alive 15 = .ok (.iconst (-1), 1) := by decide +kernel
theorem d_NF_alive_16 : decode b_NF_alive 16 = .ok (.ireturn, 1) := by decide +kernel
theorem d_NF_apart_0 : decode b_NF_apart 0 = .ok (.aload_n 0, 1) := by decide +kernel
theorem d_NF_apart_1 : decode b_NF_apart 1 = .ok (.iload_n 1, 1) := by decide +kernel
theorem d_NF_apart_2 : decode b_NF_apart 2 = .ok (.invokevirtual 138, 3) := by decide +kernel
theorem d_NF_apart_5 : decode b_NF_apart 5 = .ok (.ifCond .eq 11, 3) := by decide +kernel
theorem d_NF_apart_16 : decode b_NF_apart 16 = .ok (.iconst (-1), 1) := by decide +kernel
theorem d_NF_apart_17 : decode b_NF_apart 17 = .ok (.ireturn, 1) := by decide +kernel
theorem d_NF_canSpeak_0 : decode b_NF_canSpeak 0 = .ok (.aload_n 0, 1) := by decide +kernel
theorem d_NF_canSpeak_1 : decode b_NF_canSpeak 1 = .ok (.iload_n 1, 1) := by decide +kernel
theorem d_NF_canSpeak_2 : decode b_NF_canSpeak 2 = .ok (.invokevirtual 104, 3) := by decide +kernel
theorem d_NF_canSpeak_5 : decode b_NF_canSpeak 5 = .ok (.ifCond .eq 23, 3) := by decide +kernel
theorem d_NF_canSpeak_28 : decode b_NF_canSpeak 28 = .ok (.iconst 0, 1) := by decide +kernel
theorem d_NF_canSpeak_29 : decode b_NF_canSpeak 29 = .ok (.ireturn, 1) := by decide +kernel
theorem d_NF_changes_0 : decode b_NF_changes 0 = .ok (.aload_n 0, 1) := by decide +kernel
theorem d_NF_changes_1 : decode b_NF_changes 1 = .ok (.iload_n 1, 1) := by decide +kernel
theorem d_NF_changes_2 : decode b_NF_changes 2 = .ok (.invokevirtual 190, 3) := by decide +kernel
theorem d_NF_changes_5 : decode b_NF_changes 5 = .ok (.ifCond .eq 20, 3) := by decide +kernel
theorem d_NF_changes_25 : decode b_NF_changes 25 = .ok (.iconst (-1), 1) := by decide +kernel
theorem d_NF_changes_26 : decode b_NF_changes 26 = .ok (.ireturn, 1) := by decide +kernel
theorem d_NF_child_0 : decode b_NF_child 0 = .ok (.aload_n 0, 1) := by decide +kernel
theorem d_NF_child_1 : decode b_NF_child 1 = .ok (.iload_n 1, 1) := by decide +kernel
