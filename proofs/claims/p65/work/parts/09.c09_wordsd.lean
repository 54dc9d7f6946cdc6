theorem dL_law_1123 : decode cL_law 1123 = .ok (.pop, 1) := by decide +kernel
theorem dL_law_1124 : decode cL_law 1124 = .ok (.goto 1032, 3) := by decide +kernel
theorem dL_law_1127 : decode cL_law 1127 = .ok (.aload_n 1, 1) := by decide +kernel
theorem dL_law_1128 : decode cL_law 1128 = .ok (.invokevirtual 142, 3) := by decide +kernel
theorem dL_law_1131 : decode cL_law 1131 = .ok (.pop, 1) := by decide +kernel
theorem dL_law_1132 : decode cL_law 1132 = .ok (.aload_n 2, 1) := by decide +kernel
theorem dL_law_1133 : decode cL_law 1133 = .ok (.invokevirtual 145, 3) := by decide +kernel
theorem dL_law_1136 : decode cL_law 1136 = .ok (.pop, 1) := by decide +kernel
theorem dL_law_1137 : decode cL_law 1137 = .ok (.goto 1019, 3) := by decide +kernel
theorem dL_law_1140 : decode cL_law 1140 = .ok (.aload_n 1, 1) := by decide +kernel
theorem dL_law_1141 : decode cL_law 1141 = .ok (.invokevirtual 146, 3) := by decide +kernel
theorem dL_law_1144 : decode cL_law 1144 = .ok (.pop, 1) := by decide +kernel
theorem dL_law_1145 : decode cL_law 1145 = .ok (.aload_n 2, 1) := by decide +kernel
theorem dL_law_1146 : decode cL_law 1146 = .ok (.invokevirtual 149, 3) := by decide +kernel
theorem dL_law_1149 : decode cL_law 1149 = .ok (.pop, 1) := by decide +kernel
theorem dL_law_1150 : decode cL_law 1150 = .ok (.goto 1006, 3) := by decide +kernel
theorem dL_law_1153 : decode cL_law 1153 = .ok (.aload_n 1, 1) := by decide +kernel
theorem dL_law_1154 : decode cL_law 1154 = .ok (.aload_n 0, 1) := by decide +kernel
theorem dL_law_1155 : decode cL_law 1155 = .ok (.iload_n 3, 1) := by decide +kernel
theorem dL_law_1156 : decode cL_law 1156 = .ok (.iconst 1, 1) := by decide +kernel
theorem dL_law_1157 : decode cL_law 1157 = .ok (.iadd, 1) := by decide +kernel
theorem dL_law_1158 : decode cL_law 1158 = .ok (.iaload, 1) := by decide +kernel
theorem dL_law_1159 : decode cL_law 1159 = .ok (.invokevirtual 150, 3) := by decide +kernel
theorem dL_law_1162 : decode cL_law 1162 = .ok (.pop, 1) := by decide +kernel
theorem dL_law_1163 : decode cL_law 1163 = .ok (.aload_n 2, 1) := by decide +kernel
theorem dL_law_1164 : decode cL_law 1164 = .ok (.aload_n 0, 1) := by decide +kernel
theorem dL_law_1165 : decode cL_law 1165 = .ok (.iload_n 3, 1) := by decide +kernel
theorem dL_law_1166 : decode cL_law 1166 = .ok (.iconst 1, 1) := by decide +kernel
theorem dL_law_1167 : decode cL_law 1167 = .ok (.iadd, 1) := by decide +kernel
theorem dL_law_1168 : decode cL_law 1168 = .ok (.iaload, 1) := by decide +kernel
theorem dL_law_1169 : decode cL_law 1169 = .ok (.invokevirtual 153, 3) := by decide +kernel
theorem dL_law_1172 : decode cL_law 1172 = .ok (.pop, 1) := by decide +kernel
theorem dL_law_1173 : decode cL_law 1173 = .ok (.goto 983, 3) := by decide +kernel
theorem dL_law_1176 : decode cL_law 1176 = .ok (.aload_n 1, 1) := by decide +kernel
theorem dL_law_1177 : decode cL_law 1177 = .ok (.aload_n 0, 1) := by decide +kernel
theorem dL_law_1178 : decode cL_law 1178 = .ok (.iload_n 3, 1) := by decide +kernel
theorem dL_law_1179 : decode cL_law 1179 = .ok (.iconst 1, 1) := by decide +kernel
theorem dL_law_1180 : decode cL_law 1180 = .ok (.iadd, 1) := by decide +kernel
theorem dL_law_1181 : decode cL_law 1181 = .ok (.iaload, 1) := by decide +kernel
theorem dL_law_1182 : decode cL_law 1182 = .ok (.invokevirtual 154, 3) := by decide +kernel
theorem dL_law_1185 : decode cL_law 1185 = .ok (.pop, 1) := by decide +kernel
theorem dL_law_1186 : decode cL_law 1186 = .ok (.aload_n 2, 1) := by decide +kernel
theorem dL_law_1187 : decode cL_law 1187 = .ok (.aload_n 0, 1) := by decide +kernel
theorem dL_law_1188 : decode cL_law 1188 = .ok (.iload_n 3, 1) := by decide +kernel
theorem dL_law_1189 : decode cL_law 1189 = .ok (.iconst 1, 1) := by decide +kernel
theorem dL_law_1190 : decode cL_law 1190 = .ok (.iadd, 1) := by decide +kernel
theorem dL_law_1191 : decode cL_law 1191 = .ok (.iaload, 1) := by decide +kernel
theorem dL_law_1192 : decode cL_law 1192 = .ok (.invokevirtual 157, 3) := by decide +kernel
theorem dL_law_1195 : decode cL_law 1195 = .ok (.pop, 1) := by decide +kernel
theorem dL_law_1196 : decode cL_law 1196 = .ok (.goto 960, 3) := by decide +kernel
theorem dL_law_1199 : decode cL_law 1199 = .ok (.aload_n 1, 1) := by decide +kernel
theorem dL_law_1200 : decode cL_law 1200 = .ok (.aload_n 0, 1) := by decide +kernel
theorem dL_law_1201 : decode cL_law 1201 = .ok (.iload_n 3, 1) := by decide +kernel
theorem dL_law_1202 : decode cL_law 1202 = .ok (.iconst 1, 1) := by decide +kernel
theorem dL_law_1203 : decode cL_law 1203 = .ok (.iadd, 1) := by decide +kernel
theorem dL_law_1204 : decode cL_law 1204 = .ok (.iaload, 1) := by decide +kernel
theorem dL_law_1205 : decode cL_law 1205 = .ok (.aload_n 0, 1) := by decide +kernel
theorem dL_law_1206 : decode cL_law 1206 = .ok (.iload_n 3, 1) := by decide +kernel
theorem dL_law_1207 : decode cL_law 1207 = .ok (.iconst 2, 1) := by decide +kernel
theorem dL_law_1208 : decode cL_law 1208 = .ok (.iadd, 1) := by decide +kernel
theorem dL_law_1209 : decode cL_law 1209 = .ok (.iaload, 1) := by decide +kernel
theorem dL_law_1210 : decode cL_law 1210 = .ok (.invokevirtual 158, 3) := by decide +kernel
theorem dL_law_1213 : decode cL_law 1213 = .ok (.pop, 1) := by decide +kernel
theorem dL_law_1214 : decode cL_law 1214 = .ok (.aload_n 2, 1) := by decide +kernel
theorem dL_law_1215 : decode cL_law 1215 = .ok (.aload_n 0, 1) := by decide +kernel
theorem dL_law_1216 : decode cL_law 1216 = .ok (.iload_n 3, 1) := by decide +kernel
theorem dL_law_1217 : decode cL_law 1217 = .ok (.iconst 1, 1) := by decide +kernel
theorem dL_law_1218 : decode cL_law 1218 = .ok (.iadd, 1) := by decide +kernel
theorem dL_law_1219 : decode cL_law 1219 = .ok (.iaload, 1) := by decide +kernel
theorem dL_law_1220 : decode cL_law 1220 = .ok (.aload_n 0, 1) := by decide +kernel
theorem dL_law_1221 : decode cL_law 1221 = .ok (.iload_n 3, 1) := by decide +kernel
theorem dL_law_1222 : decode cL_law 1222 = .ok (.iconst 2, 1) := by decide +kernel
theorem dL_law_1223 : decode cL_law 1223 = .ok (.iadd, 1) := by decide +kernel
theorem dL_law_1224 : decode cL_law 1224 = .ok (.iaload, 1) := by decide +kernel
theorem dL_law_1225 : decode cL_law 1225 = .ok (.invokevirtual 161, 3) := by decide +kernel
theorem dL_law_1228 : decode cL_law 1228 = .ok (.pop, 1) := by decide +kernel
theorem dL_law_1229 : decode cL_law 1229 = .ok (.goto 927, 3) := by decide +kernel
theorem dL_law_1232 : decode cL_law 1232 = .ok (.aload_n 1, 1) := by decide +kernel
theorem dL_law_1233 : decode cL_law 1233 = .ok (.aload_n 0, 1) := by decide +kernel
theorem dL_law_1234 : decode cL_law 1234 = .ok (.iload_n 3, 1) := by decide +kernel
theorem dL_law_1235 : decode cL_law 1235 = .ok (.iconst 1, 1) := by decide +kernel
theorem dL_law_1236 : decode cL_law 1236 = .ok (.iadd, 1) := by decide +kernel
theorem dL_law_1237 : decode cL_law 1237 = .ok (.iaload, 1) := by decide +kernel
theorem dL_law_1238 : decode cL_law 1238 = .ok (.invokevirtual 162, 3) := by decide +kernel
theorem dL_law_1241 : decode cL_law 1241 = .ok (.pop, 1) := by decide +kernel
theorem dL_law_1242 : decode cL_law 1242 = .ok (.aload_n 2, 1) := by decide +kernel
theorem dL_law_1243 : decode cL_law 1243 = .ok (.aload_n 0, 1) := by decide +kernel
theorem dL_law_1244 : decode cL_law 1244 = .ok (.iload_n 3, 1) := by decide +kernel
theorem dL_law_1245 : decode cL_law 1245 = .ok (.iconst 1, 1) := by decide +kernel
theorem dL_law_1246 : decode cL_law 1246 = .ok (.iadd, 1) := by decide +kernel
theorem dL_law_1247 : decode cL_law 1247 = .ok (.iaload, 1) := by decide +kernel
theorem dL_law_1248 : decode cL_law 1248 = .ok (.invokevirtual 165, 3) := by decide +kernel
theorem dL_law_1251 : decode cL_law 1251 = .ok (.pop, 1) := by decide +kernel
theorem dL_law_1252 : decode cL_law 1252 = .ok (.goto 904, 3) := by decide +kernel
theorem dL_law_1255 : decode cL_law 1255 = .ok (.aload_n 1, 1) := by decide +kernel
theorem dL_law_1256 : decode cL_law 1256 = .ok (.aload_n 0, 1) := by decide +kernel
theorem dL_law_1257 : decode cL_law 1257 = .ok (.iload_n 3, 1) := by decide +kernel
theorem dL_law_1258 : decode cL_law 1258 = .ok (.iconst 1, 1) := by decide +kernel
theorem dL_law_1259 : decode cL_law 1259 = .ok (.iadd, 1) := by decide +kernel
theorem dL_law_1260 : decode cL_law 1260 = .ok (.iaload, 1) := by decide +kernel
theorem dL_law_1261 : decode cL_law 1261 = .ok (.invokevirtual 166, 3) := by decide +kernel
theorem dL_law_1264 : decode cL_law 1264 = .ok (.pop, 1) := by decide +kernel
theorem dL_law_1265 : decode cL_law 1265 = .ok (.aload_n 2, 1) := by decide +kernel
theorem dL_law_1266 : decode cL_law 1266 = .ok (.aload_n 0, 1) := by decide +kernel
theorem dL_law_1267 : decode cL_law 1267 = .ok (.iload_n 3, 1) := by decide +kernel
theorem dL_law_1268 : decode cL_law 1268 = .ok (.iconst 1, 1) := by decide +kernel
theorem dL_law_1269 : decode cL_law 1269 = .ok (.iadd, 1) := by decide +kernel
theorem dL_law_1270 : decode cL_law 1270 = .ok (.iaload, 1) := by decide +kernel
theorem dL_law_1271 : decode cL_law 1271 = .ok (.invokevirtual 169, 3) := by decide +kernel
theorem dL_law_1274 : decode cL_law 1274 = .ok (.pop, 1) := by decide +kernel
theorem dL_law_1275 : decode cL_law 1275 = .ok (.goto 881, 3) := by decide +kernel
theorem dL_law_1278 : decode cL_law 1278 = .ok (.aload_n 1, 1) := by decide +kernel
theorem dL_law_1279 : decode cL_law 1279 = .ok (.aload_n 0, 1) := by decide +kernel
theorem dL_law_1280 : decode cL_law 1280 = .ok (.iload_n 3, 1) := by decide +kernel
theorem dL_law_1281 : decode cL_law 1281 = .ok (.iconst 1, 1) := by decide +kernel
theorem dL_law_1282 : decode cL_law 1282 = .ok (.iadd, 1) := by decide +kernel
theorem dL_law_1283 : decode cL_law 1283 = .ok (.iaload, 1) := by decide +kernel
theorem dL_law_1284 : decode cL_law 1284 = .ok (.aload_n 0, 1) := by decide +kernel
theorem dL_law_1285 : decode cL_law 1285 = .ok (.iload_n 3, 1) := by decide +kernel
theorem dL_law_1286 : decode cL_law 1286 = .ok (.iconst 2, 1) := by decide +kernel
theorem dL_law_1287 : decode cL_law 1287 = .ok (.iadd, 1) := by decide +kernel
theorem dL_law_1288 : decode cL_law 1288 = .ok (.iaload, 1) := by decide +kernel
theorem dL_law_1289 : decode cL_law 1289 = .ok (.invokevirtual 170, 3) := by decide +kernel
theorem dL_law_1292 : decode cL_law 1292 = .ok (.pop, 1) := by decide +kernel
theorem dL_law_1293 : decode cL_law 1293 = .ok (.aload_n 2, 1) := by decide +kernel
theorem dL_law_1294 : decode cL_law 1294 = .ok (.aload_n 0, 1) := by decide +kernel
theorem dL_law_1295 : decode cL_law 1295 = .ok (.iload_n 3, 1) := by decide +kernel
theorem dL_law_1296 : decode cL_law 1296 = .ok (.iconst 1, 1) := by decide +kernel
theorem dL_law_1297 : decode cL_law 1297 = .ok (.iadd, 1) := by decide +kernel
theorem dL_law_1298 : decode cL_law 1298 = .ok (.iaload, 1) := by decide +kernel
theorem dL_law_1299 : decode cL_law 1299 = .ok (.aload_n 0, 1) := by decide +kernel
theorem dL_law_1300 : decode cL_law 1300 = .ok (.iload_n 3, 1) := by decide +kernel
theorem dL_law_1301 : decode cL_law 1301 = .ok (.iconst 2, 1) := by decide +kernel
theorem dL_law_1302 : decode cL_law 1302 = .ok (.iadd, 1) := by decide +kernel
theorem dL_law_1303 : decode cL_law 1303 = .ok (.iaload, 1) := by decide +kernel
theorem dL_law_1304 : decode cL_law 1304 = .ok (.invokevirtual 173, 3) := by decide +kernel
theorem dL_law_1307 : decode cL_law 1307 = .ok (.pop, 1) := by decide +kernel
theorem dL_law_1308 : decode cL_law 1308 = .ok (.goto 848, 3) := by decide +kernel
theorem dL_law_1311 : decode cL_law 1311 = .ok (.aload_n 1, 1) := by decide +kernel
theorem dL_law_1312 : decode cL_law 1312 = .ok (.aload_n 0, 1) := by decide +kernel
theorem dL_law_1313 : decode cL_law 1313 = .ok (.iload_n 3, 1) := by decide +kernel
theorem dL_law_1314 : decode cL_law 1314 = .ok (.iconst 1, 1) := by decide +kernel
theorem dL_law_1315 : decode cL_law 1315 = .ok (.iadd, 1) := by decide +kernel
theorem dL_law_1316 : decode cL_law 1316 = .ok (.iaload, 1) := by decide +kernel
theorem dL_law_1317 : decode cL_law 1317 = .ok (.aload_n 0, 1) := by decide +kernel
theorem dL_law_1318 : decode cL_law 1318 = .ok (.iload_n 3, 1) := by decide +kernel
theorem dL_law_1319 : decode cL_law 1319 = .ok (.iconst 2, 1) := by decide +kernel
theorem dL_law_1320 : decode cL_law 1320 = .ok (.iadd, 1) := by decide +kernel
theorem dL_law_1321 : decode cL_law 1321 = .ok (.iaload, 1) := by decide +kernel
theorem dL_law_1322 : decode cL_law 1322 = .ok (.aload_n 0, 1) := by decide +kernel
theorem dL_law_1323 : decode cL_law 1323 = .ok (.iload_n 3, 1) := by decide +kernel
theorem dL_law_1324 : decode cL_law 1324 = .ok (.iconst 3, 1) := by decide +kernel
theorem dL_law_1325 : decode cL_law 1325 = .ok (.iadd, 1) := by decide +kernel
theorem dL_law_1326 : decode cL_law 1326 = .ok (.iaload, 1) := by decide +kernel
theorem dL_law_1327 : decode cL_law 1327 = .ok (.aload_n 0, 1) := by decide +kernel
theorem dL_law_1328 : decode cL_law 1328 = .ok (.iload_n 3, 1) := by decide +kernel
theorem dL_law_1329 : decode cL_law 1329 = .ok (.iconst 4, 1) := by decide +kernel
theorem dL_law_1330 : decode cL_law 1330 = .ok (.iadd, 1) := by decide +kernel
theorem dL_law_1331 : decode cL_law 1331 = .ok (.iaload, 1) := by decide +kernel
theorem dL_law_1332 : decode cL_law 1332 = .ok (.invokevirtual 174, 3) := by decide +kernel
theorem dL_law_1335 : decode cL_law 1335 = .ok (.pop, 1) := by decide +kernel
theorem dL_law_1336 : decode cL_law 1336 = .ok (.aload_n 2, 1) := by decide +kernel
theorem dL_law_1337 : decode cL_law 1337 = .ok (.aload_n 0, 1) := by decide +kernel
theorem dL_law_1338 : decode cL_law 1338 = .ok (.iload_n 3, 1) := by decide +kernel
theorem dL_law_1339 : decode cL_law 1339 = .ok (.iconst 1, 1) := by decide +kernel
theorem dL_law_1340 : decode cL_law 1340 = .ok (.iadd, 1) := by decide +kernel
theorem dL_law_1341 : decode cL_law 1341 = .ok (.iaload, 1) := by decide +kernel
theorem dL_law_1342 : decode cL_law 1342 = .ok (.aload_n 0, 1) := by decide +kernel
theorem dL_law_1343 : decode cL_law 1343 = .ok (.iload_n 3, 1) := by decide +kernel
theorem dL_law_1344 : decode cL_law 1344 = .ok (.iconst 2, 1) := by decide +kernel
theorem dL_law_1345 : decode cL_law 1345 = .ok (.iadd, 1) := by decide +kernel
theorem dL_law_1346 : decode cL_law 1346 = .ok (.iaload, 1) := by decide +kernel
theorem dL_law_1347 : decode cL_law 1347 = .ok (.aload_n 0, 1) := by decide +kernel
theorem dL_law_1348 : decode cL_law 1348 = .ok (.iload_n 3, 1) := by decide +kernel
theorem dL_law_1349 : decode cL_law 1349 = .ok (.iconst 3, 1) := by decide +kernel
theorem dL_law_1350 : decode cL_law 1350 = .ok (.iadd, 1) := by decide +kernel
theorem dL_law_1351 : decode cL_law 1351 = .ok (.iaload, 1) := by decide +kernel
theorem dL_law_1352 : decode cL_law 1352 = .ok (.aload_n 0, 1) := by decide +kernel
theorem dL_law_1353 : decode cL_law 1353 = .ok (.iload_n 3, 1) := by decide +kernel
theorem dL_law_1354 : decode cL_law 1354 = .ok (.iconst 4, 1) := by decide +kernel
theorem dL_law_1355 : decode cL_law 1355 = .ok (.iadd, 1) := by decide +kernel
theorem dL_law_1356 : decode cL_law 1356 = .ok (.iaload, 1) := by decide +kernel
theorem dL_law_1357 : decode cL_law 1357 = .ok (.invokevirtual 178, 3) := by decide +kernel
theorem dL_law_1360 : decode cL_law 1360 = .ok (.pop, 1) := by decide +kernel
theorem dL_law_1361 : decode cL_law 1361 = .ok (.goto 795, 3) := by decide +kernel
theorem dL_law_1364 : decode cL_law 1364 = .ok (.aload_n 1, 1) := by decide +kernel
theorem dL_law_1365 : decode cL_law 1365 = .ok (.aload_n 0, 1) := by decide +kernel
theorem dL_law_1366 : decode cL_law 1366 = .ok (.iload_n 3, 1) := by decide +kernel
theorem dL_law_1367 : decode cL_law 1367 = .ok (.iconst 1, 1) := by decide +kernel
theorem dL_law_1368 : decode cL_law 1368 = .ok (.iadd, 1) := by decide +kernel
theorem dL_law_1369 : decode cL_law 1369 = .ok (.iaload, 1) := by decide +kernel
theorem dL_law_1370 : decode cL_law 1370 = .ok (.aload_n 0, 1) := by decide +kernel
theorem dL_law_1371 : decode cL_law 1371 = .ok (.iload_n 3, 1) := by decide +kernel
theorem dL_law_1372 : decode cL_law 1372 = .ok (.iconst 2, 1) := by decide +kernel
theorem dL_law_1373 : decode cL_law 1373 = .ok (.iadd, 1) := by decide +kernel
theorem dL_law_1374 : decode cL_law 1374 = .ok (.iaload, 1) := by decide +kernel
theorem dL_law_1375 : decode cL_law 1375 = .ok (.invokevirtual 179, 3) := by decide +kernel
theorem dL_law_1378 : decode cL_law 1378 = .ok (.pop, 1) := by decide +kernel
theorem dL_law_1379 : decode cL_law 1379 = .ok (.aload_n 2, 1) := by decide +kernel
theorem dL_law_1380 : decode cL_law 1380 = .ok (.aload_n 0, 1) := by decide +kernel
theorem dL_law_1381 : decode cL_law 1381 = .ok (.iload_n 3, 1) := by decide +kernel
theorem dL_law_1382 : decode cL_law 1382 = .ok (.iconst 1, 1) := by decide +kernel
theorem dL_law_1383 : decode cL_law 1383 = .ok (.iadd, 1) := by decide +kernel
theorem dL_law_1384 : decode cL_law 1384 = .ok (.iaload, 1) := by decide +kernel
theorem dL_law_1385 : decode cL_law 1385 = .ok (.aload_n 0, 1) := by decide +kernel
theorem dL_law_1386 : decode cL_law 1386 = .ok (.iload_n 3, 1) := by decide +kernel
theorem dL_law_1387 : decode cL_law 1387 = .ok (.iconst 2, 1) := by decide +kernel
theorem dL_law_1388 : decode cL_law 1388 = .ok (.iadd, 1) := by decide +kernel
theorem dL_law_1389 : decode cL_law 1389 = .ok (.iaload, 1) := by decide +kernel
theorem dL_law_1390 : decode cL_law 1390 = .ok (.invokevirtual 182, 3) := by decide +kernel
theorem dL_law_1393 : decode cL_law 1393 = .ok (.pop, 1) := by decide +kernel
theorem dL_law_1394 : decode cL_law 1394 = .ok (.goto 762, 3) := by decide +kernel
theorem dL_law_1397 : decode cL_law 1397 = .ok (.aload_n 1, 1) := by decide +kernel
theorem dL_law_1398 : decode cL_law 1398 = .ok (.invokevirtual 183, 3) := by decide +kernel
theorem dL_law_1401 : decode cL_law 1401 = .ok (.pop, 1) := by decide +kernel
theorem dL_law_1402 : decode cL_law 1402 = .ok (.aload_n 2, 1) := by decide +kernel
theorem dL_law_1403 : decode cL_law 1403 = .ok (.invokevirtual 186, 3) := by decide +kernel
theorem dL_law_1406 : decode cL_law 1406 = .ok (.pop, 1) := by decide +kernel
theorem dL_law_1407 : decode cL_law 1407 = .ok (.goto 749, 3) := by decide +kernel
theorem dL_law_1410 : decode cL_law 1410 = .ok (.aload_n 1, 1) := by decide +kernel
theorem dL_law_1411 : decode cL_law 1411 = .ok (.invokevirtual 187, 3) := by decide +kernel
theorem dL_law_1414 : decode cL_law 1414 = .ok (.pop, 1) := by decide +kernel
theorem dL_law_1415 : decode cL_law 1415 = .ok (.aload_n 2, 1) := by decide +kernel
theorem dL_law_1416 : decode cL_law 1416 = .ok (.invokevirtual 190, 3) := by decide +kernel
theorem dL_law_1419 : decode cL_law 1419 = .ok (.pop, 1) := by decide +kernel
theorem dL_law_1420 : decode cL_law 1420 = .ok (.goto 736, 3) := by decide +kernel
theorem dL_law_1423 : decode cL_law 1423 = .ok (.aload_n 1, 1) := by decide +kernel
theorem dL_law_1424 : decode cL_law 1424 = .ok (.aload_n 0, 1) := by decide +kernel
theorem dL_law_1425 : decode cL_law 1425 = .ok (.iload_n 3, 1) := by decide +kernel
theorem dL_law_1426 : decode cL_law 1426 = .ok (.iconst 1, 1) := by decide +kernel
theorem dL_law_1427 : decode cL_law 1427 = .ok (.iadd, 1) := by decide +kernel
theorem dL_law_1428 : decode cL_law 1428 = .ok (.iaload, 1) := by decide +kernel
theorem dL_law_1429 : decode cL_law 1429 = .ok (.invokevirtual 191, 3) := by decide +kernel
theorem dL_law_1432 : decode cL_law 1432 = .ok (.pop, 1) := by decide +kernel
theorem dL_law_1433 : decode cL_law 1433 = .ok (.aload_n 2, 1) := by decide +kernel
theorem dL_law_1434 : decode cL_law 1434 = .ok (.aload_n 0, 1) := by decide +kernel
theorem dL_law_1435 : decode cL_law 1435 = .ok (.iload_n 3, 1) := by decide +kernel
theorem dL_law_1436 : decode cL_law 1436 = .ok (.iconst 1, 1) := by decide +kernel
theorem dL_law_1437 : decode cL_law 1437 = .ok (.iadd, 1) := by decide +kernel
theorem dL_law_1438 : decode cL_law 1438 = .ok (.iaload, 1) := by decide +kernel
theorem dL_law_1439 : decode cL_law 1439 = .ok (.invokevirtual 194, 3) := by decide +kernel
theorem dL_law_1442 : decode cL_law 1442 = .ok (.pop, 1) := by decide +kernel
theorem dL_law_1443 : decode cL_law 1443 = .ok (.goto 713, 3) := by decide +kernel
theorem dL_law_1446 : decode cL_law 1446 = .ok (.aload_n 1, 1) := by decide +kernel
theorem dL_law_1447 : decode cL_law 1447 = .ok (.aload_n 0, 1) := by decide +kernel
theorem dL_law_1448 : decode cL_law 1448 = .ok (.iload_n 3, 1) := by decide +kernel
theorem dL_law_1449 : decode cL_law 1449 = .ok (.iconst 1, 1) := by decide +kernel
theorem dL_law_1450 : decode cL_law 1450 = .ok (.iadd, 1) := by decide +kernel
theorem dL_law_1451 : decode cL_law 1451 = .ok (.iaload, 1) := by decide +kernel
theorem dL_law_1452 : decode cL_law 1452 = .ok (.invokevirtual 195, 3) := by decide +kernel
theorem dL_law_1455 : decode cL_law 1455 = .ok (.pop, 1) := by decide +kernel
theorem dL_law_1456 : decode cL_law 1456 = .ok (.aload_n 2, 1) := by decide +kernel
theorem dL_law_1457 : decode cL_law 1457 = .ok (.aload_n 0, 1) := by decide +kernel
theorem dL_law_1458 : decode cL_law 1458 = .ok (.iload_n 3, 1) := by decide +kernel
theorem dL_law_1459 : decode cL_law 1459 = .ok (.iconst 1, 1) := by decide +kernel
theorem dL_law_1460 : decode cL_law 1460 = .ok (.iadd, 1) := by decide +kernel
theorem dL_law_1461 : decode cL_law 1461 = .ok (.iaload, 1) := by decide +kernel
theorem dL_law_1462 : decode cL_law 1462 = .ok (.invokevirtual 198, 3) := by decide +kernel
theorem dL_law_1465 : decode cL_law 1465 = .ok (.pop, 1) := by decide +kernel
theorem dL_law_1466 : decode cL_law 1466 = .ok (.goto 690, 3) := by decide +kernel
theorem dL_law_1469 : decode cL_law 1469 = .ok (.aload_n 1, 1) := by decide +kernel
theorem dL_law_1470 : decode cL_law 1470 = .ok (.aload_n 0, 1) := by decide +kernel
theorem dL_law_1471 : decode cL_law 1471 = .ok (.iload_n 3, 1) := by decide +kernel
theorem dL_law_1472 : decode cL_law 1472 = .ok (.iconst 1, 1) := by decide +kernel
theorem dL_law_1473 : decode cL_law 1473 = .ok (.iadd, 1) := by decide +kernel
theorem dL_law_1474 : decode cL_law 1474 = .ok (.iaload, 1) := by decide +kernel
theorem dL_law_1475 : decode cL_law 1475 = .ok (.aload_n 0, 1) := by decide +kernel
theorem dL_law_1476 : decode cL_law 1476 = .ok (.iload_n 3, 1) := by decide +kernel
theorem dL_law_1477 : decode cL_law 1477 = .ok (.iconst 2, 1) := by decide +kernel
theorem dL_law_1478 : decode cL_law 1478 = .ok (.iadd, 1) := by decide +kernel
theorem dL_law_1479 : decode cL_law 1479 = .ok (.iaload, 1) := by decide +kernel
theorem dL_law_1480 : decode cL_law 1480 = .ok (.invokevirtual 199, 3) := by decide +kernel
theorem dL_law_1483 : decode cL_law 1483 = .ok (.pop, 1) := by decide +kernel
theorem dL_law_1484 : decode cL_law 1484 = .ok (.aload_n 2, 1) := by decide +kernel
theorem dL_law_1485 : decode cL_law 1485 = .ok (.aload_n 0, 1) := by decide +kernel
theorem dL_law_1486 : decode cL_law 1486 = .ok (.iload_n 3, 1) := by decide +kernel
theorem dL_law_1487 : decode cL_law 1487 = .ok (.iconst 1, 1) := by decide +kernel
theorem dL_law_1488 : decode cL_law 1488 = .ok (.iadd, 1) := by decide +kernel
theorem dL_law_1489 : decode cL_law 1489 = .ok (.iaload, 1) := by decide +kernel
theorem dL_law_1490 : decode cL_law 1490 = .ok (.aload_n 0, 1) := by decide +kernel
theorem dL_law_1491 : decode cL_law 1491 = .ok (.iload_n 3, 1) := by decide +kernel
theorem dL_law_1492 : decode cL_law 1492 = .ok (.iconst 2, 1) := by decide +kernel
theorem dL_law_1493 : decode cL_law 1493 = .ok (.iadd, 1) := by decide +kernel
theorem dL_law_1494 : decode cL_law 1494 = .ok (.iaload, 1) := by decide +kernel
theorem dL_law_1495 : decode cL_law 1495 = .ok (.invokevirtual 202, 3) := by decide +kernel
theorem dL_law_1498 : decode cL_law 1498 = .ok (.pop, 1) := by decide +kernel
theorem dL_law_1499 : decode cL_law 1499 = .ok (.goto 657, 3) := by decide +kernel
theorem dL_law_1502 : decode cL_law 1502 = .ok (.aload_n 1, 1) := by decide +kernel
theorem dL_law_1503 : decode cL_law 1503 = .ok (.aload_n 0, 1) := by decide +kernel
theorem dL_law_1504 : decode cL_law 1504 = .ok (.iload_n 3, 1) := by decide +kernel
theorem dL_law_1505 : decode cL_law 1505 = .ok (.iconst 1, 1) := by decide +kernel
theorem dL_law_1506 : decode cL_law 1506 = .ok (.iadd, 1) := by decide +kernel
theorem dL_law_1507 : decode cL_law 1507 = .ok (.iaload, 1) := by decide +kernel
theorem dL_law_1508 : decode cL_law 1508 = .ok (.invokevirtual 203, 3) := by decide +kernel
theorem dL_law_1511 : decode cL_law 1511 = .ok (.pop, 1) := by decide +kernel
theorem dL_law_1512 : decode cL_law 1512 = .ok (.aload_n 2, 1) := by decide +kernel
theorem dL_law_1513 : decode cL_law 1513 = .ok (.aload_n 0, 1) := by decide +kernel
theorem dL_law_1514 : decode cL_law 1514 = .ok (.iload_n 3, 1) := by decide +kernel
theorem dL_law_1515 : decode cL_law 1515 = .ok (.iconst 1, 1) := by decide +kernel
theorem dL_law_1516 : decode cL_law 1516 = .ok (.iadd, 1) := by decide +kernel
theorem dL_law_1517 : decode cL_law 1517 = .ok (.iaload, 1) := by decide +kernel
theorem dL_law_1518 : decode cL_law 1518 = .ok (.invokevirtual 206, 3) := by decide +kernel
theorem dL_law_1521 : decode cL_law 1521 = .ok (.pop, 1) := by decide +kernel
theorem dL_law_1522 : decode cL_law 1522 = .ok (.goto 634, 3) := by decide +kernel
theorem dL_law_1525 : decode cL_law 1525 = .ok (.aload_n 1, 1) := by decide +kernel
theorem dL_law_1526 : decode cL_law 1526 = .ok (.aload_n 0, 1) := by decide +kernel
theorem dL_law_1527 : decode cL_law 1527 = .ok (.iload_n 3, 1) := by decide +kernel
theorem dL_law_1528 : decode cL_law 1528 = .ok (.iconst 1, 1) := by decide +kernel
theorem dL_law_1529 : decode cL_law 1529 = .ok (.iadd, 1) := by decide +kernel
theorem dL_law_1530 : decode cL_law 1530 = .ok (.iaload, 1) := by decide +kernel
theorem dL_law_1531 : decode cL_law 1531 = .ok (.aload_n 0, 1) := by decide +kernel
theorem dL_law_1532 : decode cL_law 1532 = .ok (.iload_n 3, 1) := by decide +kernel
theorem dL_law_1533 : decode cL_law 1533 = .ok (.iconst 2, 1) := by decide +kernel
theorem dL_law_1534 : decode cL_law 1534 = .ok (.iadd, 1) := by decide +kernel
theorem dL_law_1535 : decode cL_law 1535 = .ok (.iaload, 1) := by decide +kernel
theorem dL_law_1536 : decode cL_law 1536 = .ok (.aload_n 0, 1) := by decide +kernel
theorem dL_law_1537 : decode cL_law 1537 = .ok (.iload_n 3, 1) := by decide +kernel
theorem dL_law_1538 : decode cL_law 1538 = .ok (.iconst 3, 1) := by decide +kernel
theorem dL_law_1539 : decode cL_law 1539 = .ok (.iadd, 1) := by decide +kernel
theorem dL_law_1540 : decode cL_law 1540 = .ok (.iaload, 1) := by decide +kernel
theorem dL_law_1541 : decode cL_law 1541 = .ok (.invokevirtual 207, 3) := by decide +kernel
theorem dL_law_1544 : decode cL_law 1544 = .ok (.pop, 1) := by decide +kernel
theorem dL_law_1545 : decode cL_law 1545 = .ok (.aload_n 2, 1) := by decide +kernel
theorem dL_law_1546 : decode cL_law 1546 = .ok (.aload_n 0, 1) := by decide +kernel
theorem dL_law_1547 : decode cL_law 1547 = .ok (.iload_n 3, 1) := by decide +kernel
theorem dL_law_1548 : decode cL_law 1548 = .ok (.iconst 1, 1) := by decide +kernel
theorem dL_law_1549 : decode cL_law 1549 = .ok (.iadd, 1) := by decide +kernel
theorem dL_law_1550 : decode cL_law 1550 = .ok (.iaload, 1) := by decide +kernel
theorem dL_law_1551 : decode cL_law 1551 = .ok (.aload_n 0, 1) := by decide +kernel
theorem dL_law_1552 : decode cL_law 1552 = .ok (.iload_n 3, 1) := by decide +kernel
theorem dL_law_1553 : decode cL_law 1553 = .ok (.iconst 2, 1) := by decide +kernel
theorem dL_law_1554 : decode cL_law 1554 = .ok (.iadd, 1) := by decide +kernel
theorem dL_law_1555 : decode cL_law 1555 = .ok (.iaload, 1) := by decide +kernel
theorem dL_law_1556 : decode cL_law 1556 = .ok (.aload_n 0, 1) := by decide +kernel
theorem dL_law_1557 : decode cL_law 1557 = .ok (.iload_n 3, 1) := by decide +kernel
theorem dL_law_1558 : decode cL_law 1558 = .ok (.iconst 3, 1) := by decide +kernel
theorem dL_law_1559 : decode cL_law 1559 = .ok (.iadd, 1) := by decide +kernel
theorem dL_law_1560 : decode cL_law 1560 = .ok (.iaload, 1) := by decide +kernel
theorem dL_law_1561 : decode cL_law 1561 = .ok (.invokevirtual 210, 3) := by decide +kernel
theorem dL_law_1564 : decode cL_law 1564 = .ok (.pop, 1) := by decide +kernel
theorem dL_law_1565 : decode cL_law 1565 = .ok (.goto 591, 3) := by decide +kernel
theorem dL_law_1568 : decode cL_law 1568 = .ok (.aload_n 1, 1) := by decide +kernel
theorem dL_law_1569 : decode cL_law 1569 = .ok (.aload_n 0, 1) := by decide +kernel
theorem dL_law_1570 : decode cL_law 1570 = .ok (.iload_n 3, 1) := by decide +kernel
theorem dL_law_1571 : decode cL_law 1571 = .ok (.iconst 1, 1) := by decide +kernel
theorem dL_law_1572 : decode cL_law 1572 = .ok (.iadd, 1) := by decide +kernel
theorem dL_law_1573 : decode cL_law 1573 = .ok (.iaload, 1) := by decide +kernel
theorem dL_law_1574 : decode cL_law 1574 = .ok (.aload_n 0, 1) := by decide +kernel
theorem dL_law_1575 : decode cL_law 1575 = .ok (.iload_n 3, 1) := by decide +kernel
theorem dL_law_1576 : decode cL_law 1576 = .ok (.iconst 2, 1) := by decide +kernel
theorem dL_law_1577 : decode cL_law 1577 = .ok (.iadd, 1) := by decide +kernel
theorem dL_law_1578 : decode cL_law 1578 = .ok (.iaload, 1) := by decide +kernel
theorem dL_law_1579 : decode cL_law 1579 = .ok (.aload_n 0, 1) := by decide +kernel
theorem dL_law_1580 : decode cL_law 1580 = .ok (.iload_n 3, 1) := by decide +kernel
theorem dL_law_1581 : decode cL_law 1581 = .ok (.iconst 3, 1) := by decide +kernel
theorem dL_law_1582 : decode cL_law 1582 = .ok (.iadd, 1) := by decide +kernel
theorem dL_law_1583 : decode cL_law 1583 = .ok (.iaload, 1) := by decide +kernel
theorem dL_law_1584 : decode cL_law 1584 = .ok (.invokevirtual 211, 3) := by decide +kernel
theorem dL_law_1587 : decode cL_law 1587 = .ok (.pop2, 1) := by decide +kernel
theorem dL_law_1588 : decode cL_law 1588 = .ok (.aload_n 2, 1) := by decide +kernel
theorem dL_law_1589 : decode cL_law 1589 = .ok (.aload_n 0, 1) := by decide +kernel
theorem dL_law_1590 : decode cL_law 1590 = .ok (.iload_n 3, 1) := by decide +kernel
theorem dL_law_1591 : decode cL_law 1591 = .ok (.iconst 1, 1) := by decide +kernel
theorem dL_law_1592 : decode cL_law 1592 = .ok (.iadd, 1) := by decide +kernel
theorem dL_law_1593 : decode cL_law 1593 = .ok (.iaload, 1) := by decide +kernel
theorem dL_law_1594 : decode cL_law 1594 = .ok (.aload_n 0, 1) := by decide +kernel
theorem dL_law_1595 : decode cL_law 1595 = .ok (.iload_n 3, 1) := by decide +kernel
theorem dL_law_1596 : decode cL_law 1596 = .ok (.iconst 2, 1) := by decide +kernel
theorem dL_law_1597 : decode cL_law 1597 = .ok (.iadd, 1) := by decide +kernel
theorem dL_law_1598 : decode cL_law 1598 = .ok (.iaload, 1) := by decide +kernel
theorem dL_law_1599 : decode cL_law 1599 = .ok (.aload_n 0, 1) := by decide +kernel
theorem dL_law_1600 : decode cL_law 1600 = .ok (.iload_n 3, 1) := by decide +kernel
theorem dL_law_1601 : decode cL_law 1601 = .ok (.iconst 3, 1) := by decide +kernel
theorem dL_law_1602 : decode cL_law 1602 = .ok (.iadd, 1) := by decide +kernel
theorem dL_law_1603 : decode cL_law 1603 = .ok (.iaload, 1) := by decide +kernel
theorem dL_law_1604 : decode cL_law 1604 = .ok (.invokevirtual 215, 3) := by decide +kernel
theorem dL_law_1607 : decode cL_law 1607 = .ok (.pop2, 1) := by decide +kernel
theorem dL_law_1608 : decode cL_law 1608 = .ok (.goto 548, 3) := by decide +kernel
theorem dL_law_1611 : decode cL_law 1611 = .ok (.aload_n 1, 1) := by decide +kernel
theorem dL_law_1612 : decode cL_law 1612 = .ok (.aload_n 0, 1) := by decide +kernel
theorem dL_law_1613 : decode cL_law 1613 = .ok (.iload_n 3, 1) := by decide +kernel
theorem dL_law_1614 : decode cL_law 1614 = .ok (.iconst 1, 1) := by decide +kernel
theorem dL_law_1615 : decode cL_law 1615 = .ok (.iadd, 1) := by decide +kernel
theorem dL_law_1616 : decode cL_law 1616 = .ok (.iaload, 1) := by decide +kernel
theorem dL_law_1617 : decode cL_law 1617 = .ok (.invokevirtual 216, 3) := by decide +kernel
theorem dL_law_1620 : decode cL_law 1620 = .ok (.pop, 1) := by decide +kernel
theorem dL_law_1621 : decode cL_law 1621 = .ok (.aload_n 2, 1) := by decide +kernel
theorem dL_law_1622 : decode cL_law 1622 = .ok (.aload_n 0, 1) := by decide +kernel
theorem dL_law_1623 : decode cL_law 1623 = .ok (.iload_n 3, 1) := by decide +kernel
theorem dL_law_1624 : decode cL_law 1624 = .ok (.iconst 1, 1) := by decide +kernel
theorem dL_law_1625 : decode cL_law 1625 = .ok (.iadd, 1) := by decide +kernel
theorem dL_law_1626 : decode cL_law 1626 = .ok (.iaload, 1) := by decide +kernel
theorem dL_law_1627 : decode cL_law 1627 = .ok (.invokevirtual 219, 3) := by decide +kernel
theorem dL_law_1630 : decode cL_law 1630 = .ok (.pop, 1) := by decide +kernel
theorem dL_law_1631 : decode cL_law 1631 = .ok (.goto 525, 3) := by decide +kernel
theorem dL_law_1634 : decode cL_law 1634 = .ok (.aload_n 1, 1) := by decide +kernel
theorem dL_law_1635 : decode cL_law 1635 = .ok (.aload_n 0, 1) := by decide +kernel
theorem dL_law_1636 : decode cL_law 1636 = .ok (.iload_n 3, 1) := by decide +kernel
theorem dL_law_1637 : decode cL_law 1637 = .ok (.iconst 1, 1) := by decide +kernel
theorem dL_law_1638 : decode cL_law 1638 = .ok (.iadd, 1) := by decide +kernel
theorem dL_law_1639 : decode cL_law 1639 = .ok (.iaload, 1) := by decide +kernel
theorem dL_law_1640 : decode cL_law 1640 = .ok (.invokevirtual 220, 3) := by decide +kernel
theorem dL_law_1643 : decode cL_law 1643 = .ok (.pop2, 1) := by decide +kernel
theorem dL_law_1644 : decode cL_law 1644 = .ok (.aload_n 2, 1) := by decide +kernel
theorem dL_law_1645 : decode cL_law 1645 = .ok (.aload_n 0, 1) := by decide +kernel
theorem dL_law_1646 : decode cL_law 1646 = .ok (.iload_n 3, 1) := by decide +kernel
theorem dL_law_1647 : decode cL_law 1647 = .ok (.iconst 1, 1) := by decide +kernel
theorem dL_law_1648 : decode cL_law 1648 = .ok (.iadd, 1) := by decide +kernel
theorem dL_law_1649 : decode cL_law 1649 = .ok (.iaload, 1) := by decide +kernel
theorem dL_law_1650 : decode cL_law 1650 = .ok (.invokevirtual 224, 3) := by decide +kernel
theorem dL_law_1653 : decode cL_law 1653 = .ok (.pop2, 1) := by decide +kernel
theorem dL_law_1654 : decode cL_law 1654 = .ok (.goto 502, 3) := by decide +kernel
theorem dL_law_1657 : decode cL_law 1657 = .ok (.aload_n 1, 1) := by decide +kernel
theorem dL_law_1658 : decode cL_law 1658 = .ok (.aload_n 0, 1) := by decide +kernel
theorem dL_law_1659 : decode cL_law 1659 = .ok (.iload_n 3, 1) := by decide +kernel
theorem dL_law_1660 : decode cL_law 1660 = .ok (.iconst 1, 1) := by decide +kernel
theorem dL_law_1661 : decode cL_law 1661 = .ok (.iadd, 1) := by decide +kernel
theorem dL_law_1662 : decode cL_law 1662 = .ok (.iaload, 1) := by decide +kernel
theorem dL_law_1663 : decode cL_law 1663 = .ok (.invokevirtual 225, 3) := by decide +kernel
theorem dL_law_1666 : decode cL_law 1666 = .ok (.pop, 1) := by decide +kernel
theorem dL_law_1667 : decode cL_law 1667 = .ok (.aload_n 2, 1) := by decide +kernel
theorem dL_law_1668 : decode cL_law 1668 = .ok (.aload_n 0, 1) := by decide +kernel
theorem dL_law_1669 : decode cL_law 1669 = .ok (.iload_n 3, 1) := by decide +kernel
theorem dL_law_1670 : decode cL_law 1670 = .ok (.iconst 1, 1) := by decide +kernel
theorem dL_law_1671 : decode cL_law 1671 = .ok (.iadd, 1) := by decide +kernel
theorem dL_law_1672 : decode cL_law 1672 = .ok (.iaload, 1) := by decide +kernel
theorem dL_law_1673 : decode cL_law 1673 = .ok (.invokevirtual 228, 3) := by decide +kernel
theorem dL_law_1676 : decode cL_law 1676 = .ok (.pop, 1) := by decide +kernel
theorem dL_law_1677 : decode cL_law 1677 = .ok (.goto 479, 3) := by decide +kernel
theorem dL_law_1680 : decode cL_law 1680 = .ok (.aload_n 1, 1) := by decide +kernel
theorem dL_law_1681 : decode cL_law 1681 = .ok (.aload_n 0, 1) := by decide +kernel
theorem dL_law_1682 : decode cL_law 1682 = .ok (.iload_n 3, 1) := by decide +kernel
theorem dL_law_1683 : decode cL_law 1683 = .ok (.iconst 1, 1) := by decide +kernel
theorem dL_law_1684 : decode cL_law 1684 = .ok (.iadd, 1) := by decide +kernel
theorem dL_law_1685 : decode cL_law 1685 = .ok (.iaload, 1) := by decide +kernel
theorem dL_law_1686 : decode cL_law 1686 = .ok (.aload_n 0, 1) := by decide +kernel
theorem dL_law_1687 : decode cL_law 1687 = .ok (.iload_n 3, 1) := by decide +kernel
theorem dL_law_1688 : decode cL_law 1688 = .ok (.iconst 2, 1) := by decide +kernel
theorem dL_law_1689 : decode cL_law 1689 = .ok (.iadd, 1) := by decide +kernel
theorem dL_law_1690 : decode cL_law 1690 = .ok (.iaload, 1) := by decide +kernel
theorem dL_law_1691 : decode cL_law 1691 = .ok (.invokevirtual 229, 3) := by decide +kernel
theorem dL_law_1694 : decode cL_law 1694 = .ok (.pop, 1) := by decide +kernel
theorem dL_law_1695 : decode cL_law 1695 = .ok (.aload_n 2, 1) := by decide +kernel
theorem dL_law_1696 : decode cL_law 1696 = .ok (.aload_n 0, 1) := by decide +kernel
theorem dL_law_1697 : decode cL_law 1697 = .ok (.iload_n 3, 1) := by decide +kernel
theorem dL_law_1698 : decode cL_law 1698 = .ok (.iconst 1, 1) := by decide +kernel
theorem dL_law_1699 : decode cL_law 1699 = .ok (.iadd, 1) := by decide +kernel
theorem dL_law_1700 : decode cL_law 1700 = .ok (.iaload, 1) := by decide +kernel
theorem dL_law_1701 : decode cL_law 1701 = .ok (.aload_n 0, 1) := by decide +kernel
theorem dL_law_1702 : decode cL_law 1702 = .ok (.iload_n 3, 1) := by decide +kernel
theorem dL_law_1703 : decode cL_law 1703 = .ok (.iconst 2, 1) := by decide +kernel
theorem dL_law_1704 : decode cL_law 1704 = .ok (.iadd, 1) := by decide +kernel
theorem dL_law_1705 : decode cL_law 1705 = .ok (.iaload, 1) := by decide +kernel
theorem dL_law_1706 : decode cL_law 1706 = .ok (.invokevirtual 232, 3) := by decide +kernel
theorem dL_law_1709 : decode cL_law 1709 = .ok (.pop, 1) := by decide +kernel
theorem dL_law_1710 : decode cL_law 1710 = .ok (.goto 446, 3) := by decide +kernel
theorem dL_law_1713 : decode cL_law 1713 = .ok (.aload_n 1, 1) := by decide +kernel
theorem dL_law_1714 : decode cL_law 1714 = .ok (.aload_n 0, 1) := by decide +kernel
theorem dL_law_1715 : decode cL_law 1715 = .ok (.iload_n 3, 1) := by decide +kernel
theorem dL_law_1716 : decode cL_law 1716 = .ok (.iconst 1, 1) := by decide +kernel
theorem dL_law_1717 : decode cL_law 1717 = .ok (.iadd, 1) := by decide +kernel
theorem dL_law_1718 : decode cL_law 1718 = .ok (.iaload, 1) := by decide +kernel
theorem dL_law_1719 : decode cL_law 1719 = .ok (.invokevirtual 233, 3) := by decide +kernel
theorem dL_law_1722 : decode cL_law 1722 = .ok (.pop, 1) := by decide +kernel
theorem dL_law_1723 : decode cL_law 1723 = .ok (.aload_n 2, 1) := by decide +kernel
theorem dL_law_1724 : decode cL_law 1724 = .ok (.aload_n 0, 1) := by decide +kernel
theorem dL_law_1725 : decode cL_law 1725 = .ok (.iload_n 3, 1) := by decide +kernel
theorem dL_law_1726 : decode cL_law 1726 = .ok (.iconst 1, 1) := by decide +kernel
theorem dL_law_1727 : decode cL_law 1727 = .ok (.iadd, 1) := by decide +kernel
theorem dL_law_1728 : decode cL_law 1728 = .ok (.iaload, 1) := by decide +kernel
theorem dL_law_1729 : decode cL_law 1729 = .ok (.invokevirtual 236, 3) := by decide +kernel
theorem dL_law_1732 : decode cL_law 1732 = .ok (.pop, 1) := by decide +kernel
theorem dL_law_1733 : decode cL_law 1733 = .ok (.goto 423, 3) := by decide +kernel
theorem dL_law_1736 : decode cL_law 1736 = .ok (.aload_n 1, 1) := by decide +kernel
theorem dL_law_1737 : decode cL_law 1737 = .ok (.aload_n 0, 1) := by decide +kernel
theorem dL_law_1738 : decode cL_law 1738 = .ok (.iload_n 3, 1) := by decide +kernel
theorem dL_law_1739 : decode cL_law 1739 = .ok (.iconst 1, 1) := by decide +kernel
theorem dL_law_1740 : decode cL_law 1740 = .ok (.iadd, 1) := by decide +kernel
theorem dL_law_1741 : decode cL_law 1741 = .ok (.iaload, 1) := by decide +kernel
theorem dL_law_1742 : decode cL_law 1742 = .ok (.aload_n 0, 1) := by decide +kernel
theorem dL_law_1743 : decode cL_law 1743 = .ok (.iload_n 3, 1) := by decide +kernel
theorem dL_law_1744 : decode cL_law 1744 = .ok (.iconst 2, 1) := by decide +kernel
theorem dL_law_1745 : decode cL_law 1745 = .ok (.iadd, 1) := by decide +kernel
theorem dL_law_1746 : decode cL_law 1746 = .ok (.iaload, 1) := by decide +kernel
theorem dL_law_1747 : decode cL_law 1747 = .ok (.aload_n 0, 1) := by decide +kernel
theorem dL_law_1748 : decode cL_law 1748 = .ok (.iload_n 3, 1) := by decide +kernel
theorem dL_law_1749 : decode cL_law 1749 = .ok (.iconst 3, 1) := by decide +kernel
theorem dL_law_1750 : decode cL_law 1750 = .ok (.iadd, 1) := by decide +kernel
theorem dL_law_1751 : decode cL_law 1751 = .ok (.iaload, 1) := by decide +kernel
theorem dL_law_1752 : decode cL_law 1752 = .ok (.invokevirtual 237, 3) := by decide +kernel
theorem dL_law_1755 : decode cL_law 1755 = .ok (.pop, 1) := by decide +kernel
theorem dL_law_1756 : decode cL_law 1756 = .ok (.aload_n 2, 1) := by decide +kernel
theorem dL_law_1757 : decode cL_law 1757 = .ok (.aload_n 0, 1) := by decide +kernel
theorem dL_law_1758 : decode cL_law 1758 = .ok (.iload_n 3, 1) := by decide +kernel
theorem dL_law_1759 : decode cL_law 1759 = .ok (.iconst 1, 1) := by decide +kernel
theorem dL_law_1760 : decode cL_law 1760 = .ok (.iadd, 1) := by decide +kernel
theorem dL_law_1761 : decode cL_law 1761 = .ok (.iaload, 1) := by decide +kernel
theorem dL_law_1762 : decode cL_law 1762 = .ok (.aload_n 0, 1) := by decide +kernel
theorem dL_law_1763 : decode cL_law 1763 = .ok (.iload_n 3, 1) := by decide +kernel
theorem dL_law_1764 : decode cL_law 1764 = .ok (.iconst 2, 1) := by decide +kernel
theorem dL_law_1765 : decode cL_law 1765 = .ok (.iadd, 1) := by decide +kernel
theorem dL_law_1766 : decode cL_law 1766 = .ok (.iaload, 1) := by decide +kernel
theorem dL_law_1767 : decode cL_law 1767 = .ok (.aload_n 0, 1) := by decide +kernel
theorem dL_law_1768 : decode cL_law 1768 = .ok (.iload_n 3, 1) := by decide +kernel
theorem dL_law_1769 : decode cL_law 1769 = .ok (.iconst 3, 1) := by decide +kernel
theorem dL_law_1770 : decode cL_law 1770 = .ok (.iadd, 1) := by decide +kernel
theorem dL_law_1771 : decode cL_law 1771 = .ok (.iaload, 1) := by decide +kernel
theorem dL_law_1772 : decode cL_law 1772 = .ok (.invokevirtual 240, 3) := by decide +kernel
theorem dL_law_1775 : decode cL_law 1775 = .ok (.pop, 1) := by decide +kernel
theorem dL_law_1776 : decode cL_law 1776 = .ok (.goto 380, 3) := by decide +kernel
theorem dL_law_1779 : decode cL_law 1779 = .ok (.aload_n 1, 1) := by decide +kernel
theorem dL_law_1780 : decode cL_law 1780 = .ok (.aload_n 0, 1) := by decide +kernel
theorem dL_law_1781 : decode cL_law 1781 = .ok (.iload_n 3, 1) := by decide +kernel
theorem dL_law_1782 : decode cL_law 1782 = .ok (.iconst 1, 1) := by decide +kernel
theorem dL_law_1783 : decode cL_law 1783 = .ok (.iadd, 1) := by decide +kernel
theorem dL_law_1784 : decode cL_law 1784 = .ok (.iaload, 1) := by decide +kernel
theorem dL_law_1785 : decode cL_law 1785 = .ok (.aload_n 0, 1) := by decide +kernel
theorem dL_law_1786 : decode cL_law 1786 = .ok (.iload_n 3, 1) := by decide +kernel
theorem dL_law_1787 : decode cL_law 1787 = .ok (.iconst 2, 1) := by decide +kernel
theorem dL_law_1788 : decode cL_law 1788 = .ok (.iadd, 1) := by decide +kernel
theorem dL_law_1789 : decode cL_law 1789 = .ok (.iaload, 1) := by decide +kernel
theorem dL_law_1790 : decode cL_law 1790 = .ok (.aload_n 0, 1) := by decide +kernel
theorem dL_law_1791 : decode cL_law 1791 = .ok (.iload_n 3, 1) := by decide +kernel
theorem dL_law_1792 : decode cL_law 1792 = .ok (.iconst 3, 1) := by decide +kernel
theorem dL_law_1793 : decode cL_law 1793 = .ok (.iadd, 1) := by decide +kernel
theorem dL_law_1794 : decode cL_law 1794 = .ok (.iaload, 1) := by decide +kernel
theorem dL_law_1795 : decode cL_law 1795 = .ok (.invokevirtual 241, 3) := by decide +kernel
theorem dL_law_1798 : decode cL_law 1798 = .ok (.pop, 1) := by decide +kernel
theorem dL_law_1799 : decode cL_law 1799 = .ok (.aload_n 2, 1) := by decide +kernel
theorem dL_law_1800 : decode cL_law 1800 = .ok (.aload_n 0, 1) := by decide +kernel
theorem dL_law_1801 : decode cL_law 1801 = .ok (.iload_n 3, 1) := by decide +kernel
theorem dL_law_1802 : decode cL_law 1802 = .ok (.iconst 1, 1) := by decide +kernel
theorem dL_law_1803 : decode cL_law 1803 = .ok (.iadd, 1) := by decide +kernel
theorem dL_law_1804 : decode cL_law 1804 = .ok (.iaload, 1) := by decide +kernel
theorem dL_law_1805 : decode cL_law 1805 = .ok (.aload_n 0, 1) := by decide +kernel
theorem dL_law_1806 : decode cL_law 1806 = .ok (.iload_n 3, 1) := by decide +kernel
theorem dL_law_1807 : decode cL_law 1807 = .ok (.iconst 2, 1) := by decide +kernel
theorem dL_law_1808 : decode cL_law 1808 = .ok (.iadd, 1) := by decide +kernel
theorem dL_law_1809 : decode cL_law 1809 = .ok (.iaload, 1) := by decide +kernel
theorem dL_law_1810 : decode cL_law 1810 = .ok (.aload_n 0, 1) := by decide +kernel
theorem dL_law_1811 : decode cL_law 1811 = .ok (.iload_n 3, 1) := by decide +kernel
theorem dL_law_1812 : decode cL_law 1812 = .ok (.iconst 3, 1) := by decide +kernel
theorem dL_law_1813 : decode cL_law 1813 = .ok (.iadd, 1) := by decide +kernel
theorem dL_law_1814 : decode cL_law 1814 = .ok (.iaload, 1) := by decide +kernel
theorem dL_law_1815 : decode cL_law 1815 = .ok (.invokevirtual 244, 3) := by decide +kernel
theorem dL_law_1818 : decode cL_law 1818 = .ok (.pop, 1) := by decide +kernel
theorem dL_law_1819 : decode cL_law 1819 = .ok (.goto 337, 3) := by decide +kernel
theorem dL_law_1822 : decode cL_law 1822 = .ok (.aload_n 1, 1) := by decide +kernel
theorem dL_law_1823 : decode cL_law 1823 = .ok (.aload_n 0, 1) := by decide +kernel
theorem dL_law_1824 : decode cL_law 1824 = .ok (.iload_n 3, 1) := by decide +kernel
theorem dL_law_1825 : decode cL_law 1825 = .ok (.iconst 1, 1) := by decide +kernel
theorem dL_law_1826 : decode cL_law 1826 = .ok (.iadd, 1) := by decide +kernel
theorem dL_law_1827 : decode cL_law 1827 = .ok (.iaload, 1) := by decide +kernel
theorem dL_law_1828 : decode cL_law 1828 = .ok (.aload_n 0, 1) := by decide +kernel
theorem dL_law_1829 : decode cL_law 1829 = .ok (.iload_n 3, 1) := by decide +kernel
theorem dL_law_1830 : decode cL_law 1830 = .ok (.iconst 2, 1) := by decide +kernel
theorem dL_law_1831 : decode cL_law 1831 = .ok (.iadd, 1) := by decide +kernel
theorem dL_law_1832 : decode cL_law 1832 = .ok (.iaload, 1) := by decide +kernel
theorem dL_law_1833 : decode cL_law 1833 = .ok (.aload_n 0, 1) := by decide +kernel
theorem dL_law_1834 : decode cL_law 1834 = .ok (.iload_n 3, 1) := by decide +kernel
theorem dL_law_1835 : decode cL_law 1835 = .ok (.iconst 3, 1) := by decide +kernel
theorem dL_law_1836 : decode cL_law 1836 = .ok (.iadd, 1) := by decide +kernel
theorem dL_law_1837 : decode cL_law 1837 = .ok (.iaload, 1) := by decide +kernel
theorem dL_law_1838 : decode cL_law 1838 = .ok (.invokevirtual 245, 3) := by decide +kernel
theorem dL_law_1841 : decode cL_law 1841 = .ok (.pop, 1) := by decide +kernel
theorem dL_law_1842 : decode cL_law 1842 = .ok (.aload_n 2, 1) := by decide +kernel
theorem dL_law_1843 : decode cL_law 1843 = .ok (.aload_n 0, 1) := by decide +kernel
theorem dL_law_1844 : decode cL_law 1844 = .ok (.iload_n 3, 1) := by decide +kernel
theorem dL_law_1845 : decode cL_law 1845 = .ok (.iconst 1, 1) := by decide +kernel
theorem dL_law_1846 : decode cL_law 1846 = .ok (.iadd, 1) := by decide +kernel
theorem dL_law_1847 : decode cL_law 1847 = .ok (.iaload, 1) := by decide +kernel
theorem dL_law_1848 : decode cL_law 1848 = .ok (.aload_n 0, 1) := by decide +kernel
theorem dL_law_1849 : decode cL_law 1849 = .ok (.iload_n 3, 1) := by decide +kernel
theorem dL_law_1850 : decode cL_law 1850 = .ok (.iconst 2, 1) := by decide +kernel
theorem dL_law_1851 : decode cL_law 1851 = .ok (.iadd, 1) := by decide +kernel
theorem dL_law_1852 : decode cL_law 1852 = .ok (.iaload, 1) := by decide +kernel
theorem dL_law_1853 : decode cL_law 1853 = .ok (.aload_n 0, 1) := by decide +kernel
theorem dL_law_1854 : decode cL_law 1854 = .ok (.iload_n 3, 1) := by decide +kernel
theorem dL_law_1855 : decode cL_law 1855 = .ok (.iconst 3, 1) := by decide +kernel
theorem dL_law_1856 : decode cL_law 1856 = .ok (.iadd, 1) := by decide +kernel
theorem dL_law_1857 : decode cL_law 1857 = .ok (.iaload, 1) := by decide +kernel
theorem dL_law_1858 : decode cL_law 1858 = .ok (.invokevirtual 248, 3) := by decide +kernel
theorem dL_law_1861 : decode cL_law 1861 = .ok (.pop, 1) := by decide +kernel
theorem dL_law_1862 : decode cL_law 1862 = .ok (.goto 294, 3) := by decide +kernel
theorem dL_law_1865 : decode cL_law 1865 = .ok (.aload_n 1, 1) := by decide +kernel
theorem dL_law_1866 : decode cL_law 1866 = .ok (.aload_n 0, 1) := by decide +kernel
theorem dL_law_1867 : decode cL_law 1867 = .ok (.iload_n 3, 1) := by decide +kernel
theorem dL_law_1868 : decode cL_law 1868 = .ok (.iconst 1, 1) := by decide +kernel
theorem dL_law_1869 : decode cL_law 1869 = .ok (.iadd, 1) := by decide +kernel
theorem dL_law_1870 : decode cL_law 1870 = .ok (.iaload, 1) := by decide +kernel
theorem dL_law_1871 : decode cL_law 1871 = .ok (.aload_n 0, 1) := by decide +kernel
theorem dL_law_1872 : decode cL_law 1872 = .ok (.iload_n 3, 1) := by decide +kernel
theorem dL_law_1873 : decode cL_law 1873 = .ok (.iconst 2, 1) := by decide +kernel
theorem dL_law_1874 : decode cL_law 1874 = .ok (.iadd, 1) := by decide +kernel
theorem dL_law_1875 : decode cL_law 1875 = .ok (.iaload, 1) := by decide +kernel
theorem dL_law_1876 : decode cL_law 1876 = .ok (.aload_n 0, 1) := by decide +kernel
theorem dL_law_1877 : decode cL_law 1877 = .ok (.iload_n 3, 1) := by decide +kernel
theorem dL_law_1878 : decode cL_law 1878 = .ok (.iconst 3, 1) := by decide +kernel
theorem dL_law_1879 : decode cL_law 1879 = .ok (.iadd, 1) := by decide +kernel
theorem dL_law_1880 : decode cL_law 1880 = .ok (.iaload, 1) := by decide +kernel
theorem dL_law_1881 : decode cL_law 1881 = .ok (.invokevirtual 249, 3) := by decide +kernel
theorem dL_law_1884 : decode cL_law 1884 = .ok (.pop, 1) := by decide +kernel
theorem dL_law_1885 : decode cL_law 1885 = .ok (.aload_n 2, 1) := by decide +kernel
theorem dL_law_1886 : decode cL_law 1886 = .ok (.aload_n 0, 1) := by decide +kernel
theorem dL_law_1887 : decode cL_law 1887 = .ok (.iload_n 3, 1) := by decide +kernel
theorem dL_law_1888 : decode cL_law 1888 = .ok (.iconst 1, 1) := by decide +kernel
theorem dL_law_1889 : decode cL_law 1889 = .ok (.iadd, 1) := by decide +kernel
theorem dL_law_1890 : decode cL_law 1890 = .ok (.iaload, 1) := by decide +kernel
theorem dL_law_1891 : decode cL_law 1891 = .ok (.aload_n 0, 1) := by decide +kernel
theorem dL_law_1892 : decode cL_law 1892 = .ok (.iload_n 3, 1) := by decide +kernel
theorem dL_law_1893 : decode cL_law 1893 = .ok (.iconst 2, 1) := by decide +kernel
theorem dL_law_1894 : decode cL_law 1894 = .ok (.iadd, 1) := by decide +kernel
theorem dL_law_1895 : decode cL_law 1895 = .ok (.iaload, 1) := by decide +kernel
theorem dL_law_1896 : decode cL_law 1896 = .ok (.aload_n 0, 1) := by decide +kernel
theorem dL_law_1897 : decode cL_law 1897 = .ok (.iload_n 3, 1) := by decide +kernel
theorem dL_law_1898 : decode cL_law 1898 = .ok (.iconst 3, 1) := by decide +kernel
theorem dL_law_1899 : decode cL_law 1899 = .ok (.iadd, 1) := by decide +kernel
theorem dL_law_1900 : decode cL_law 1900 = .ok (.iaload, 1) := by decide +kernel
theorem dL_law_1901 : decode cL_law 1901 = .ok (.invokevirtual 252, 3) := by decide +kernel
theorem dL_law_1904 : decode cL_law 1904 = .ok (.pop, 1) := by decide +kernel
theorem dL_law_1905 : decode cL_law 1905 = .ok (.goto 251, 3) := by decide +kernel
theorem dL_law_1908 : decode cL_law 1908 = .ok (.aload_n 1, 1) := by decide +kernel
theorem dL_law_1909 : decode cL_law 1909 = .ok (.aload_n 0, 1) := by decide +kernel
theorem dL_law_1910 : decode cL_law 1910 = .ok (.iload_n 3, 1) := by decide +kernel
theorem dL_law_1911 : decode cL_law 1911 = .ok (.iconst 1, 1) := by decide +kernel
theorem dL_law_1912 : decode cL_law 1912 = .ok (.iadd, 1) := by decide +kernel
theorem dL_law_1913 : decode cL_law 1913 = .ok (.iaload, 1) := by decide +kernel
theorem dL_law_1914 : decode cL_law 1914 = .ok (.invokevirtual 253, 3) := by decide +kernel
theorem dL_law_1917 : decode cL_law 1917 = .ok (.pop, 1) := by decide +kernel
theorem dL_law_1918 : decode cL_law 1918 = .ok (.aload_n 2, 1) := by decide +kernel
theorem dL_law_1919 : decode cL_law 1919 = .ok (.aload_n 0, 1) := by decide +kernel
theorem dL_law_1920 : decode cL_law 1920 = .ok (.iload_n 3, 1) := by decide +kernel
theorem dL_law_1921 : decode cL_law 1921 = .ok (.iconst 1, 1) := by decide +kernel
theorem dL_law_1922 : decode cL_law 1922 = .ok (.iadd, 1) := by decide +kernel
theorem dL_law_1923 : decode cL_law 1923 = .ok (.iaload, 1) := by decide +kernel
theorem dL_law_1924 : decode cL_law 1924 = .ok (.invokevirtual 256, 3) := by decide +kernel
theorem dL_law_1927 : decode cL_law 1927 = .ok (.pop, 1) := by decide +kernel
theorem dL_law_1928 : decode cL_law 1928 = .ok (.goto 228, 3) := by decide +kernel
theorem dL_law_1931 : decode cL_law 1931 = .ok (.aload_n 1, 1) := by decide +kernel
theorem dL_law_1932 : decode cL_law 1932 = .ok (.aload_n 0, 1) := by decide +kernel
theorem dL_law_1933 : decode cL_law 1933 = .ok (.iload_n 3, 1) := by decide +kernel
theorem dL_law_1934 : decode cL_law 1934 = .ok (.iconst 1, 1) := by decide +kernel
theorem dL_law_1935 : decode cL_law 1935 = .ok (.iadd, 1) := by decide +kernel
theorem dL_law_1936 : decode cL_law 1936 = .ok (.iaload, 1) := by decide +kernel
theorem dL_law_1937 : decode cL_law 1937 = .ok (.invokevirtual 257, 3) := by decide +kernel
theorem dL_law_1940 : decode cL_law 1940 = .ok (.pop, 1) := by decide +kernel
theorem dL_law_1941 : decode cL_law 1941 = .ok (.aload_n 2, 1) := by decide +kernel
theorem dL_law_1942 : decode cL_law 1942 = .ok (.aload_n 0, 1) := by decide +kernel
theorem dL_law_1943 : decode cL_law 1943 = .ok (.iload_n 3, 1) := by decide +kernel
theorem dL_law_1944 : decode cL_law 1944 = .ok (.iconst 1, 1) := by decide +kernel
theorem dL_law_1945 : decode cL_law 1945 = .ok (.iadd, 1) := by decide +kernel
theorem dL_law_1946 : decode cL_law 1946 = .ok (.iaload, 1) := by decide +kernel
theorem dL_law_1947 : decode cL_law 1947 = .ok (.invokevirtual 260, 3) := by decide +kernel
theorem dL_law_1950 : decode cL_law 1950 = .ok (.pop, 1) := by decide +kernel
theorem dL_law_1951 : decode cL_law 1951 = .ok (.goto 205, 3) := by decide +kernel
theorem dL_law_1954 : decode cL_law 1954 = .ok (.aload_n 1, 1) := by decide +kernel
theorem dL_law_1955 : decode cL_law 1955 = .ok (.aload_n 0, 1) := by decide +kernel
theorem dL_law_1956 : decode cL_law 1956 = .ok (.iload_n 3, 1) := by decide +kernel
theorem dL_law_1957 : decode cL_law 1957 = .ok (.iconst 1, 1) := by decide +kernel
theorem dL_law_1958 : decode cL_law 1958 = .ok (.iadd, 1) := by decide +kernel
theorem dL_law_1959 : decode cL_law 1959 = .ok (.iaload, 1) := by decide +kernel
theorem dL_law_1960 : decode cL_law 1960 = .ok (.invokevirtual 261, 3) := by decide +kernel
theorem dL_law_1963 : decode cL_law 1963 = .ok (.pop, 1) := by decide +kernel
theorem dL_law_1964 : decode cL_law 1964 = .ok (.aload_n 2, 1) := by decide +kernel
theorem dL_law_1965 : decode cL_law 1965 = .ok (.aload_n 0, 1) := by decide +kernel
theorem dL_law_1966 : decode cL_law 1966 = .ok (.iload_n 3, 1) := by decide +kernel
theorem dL_law_1967 : decode cL_law 1967 = .ok (.iconst 1, 1) := by decide +kernel
theorem dL_law_1968 : decode cL_law 1968 = .ok (.iadd, 1) := by decide +kernel
theorem dL_law_1969 : decode cL_law 1969 = .ok (.iaload, 1) := by decide +kernel
theorem dL_law_1970 : decode cL_law 1970 = .ok (.invokevirtual 264, 3) := by decide +kernel
theorem dL_law_1973 : decode cL_law 1973 = .ok (.pop, 1) := by decide +kernel
theorem dL_law_1974 : decode cL_law 1974 = .ok (.goto 182, 3) := by decide +kernel
theorem dL_law_1977 : decode cL_law 1977 = .ok (.aload_n 1, 1) := by decide +kernel
theorem dL_law_1978 : decode cL_law 1978 = .ok (.aload_n 0, 1) := by decide +kernel
theorem dL_law_1979 : decode cL_law 1979 = .ok (.iload_n 3, 1) := by decide +kernel
theorem dL_law_1980 : decode cL_law 1980 = .ok (.iconst 1, 1) := by decide +kernel
theorem dL_law_1981 : decode cL_law 1981 = .ok (.iadd, 1) := by decide +kernel
theorem dL_law_1982 : decode cL_law 1982 = .ok (.iaload, 1) := by decide +kernel
theorem dL_law_1983 : decode cL_law 1983 = .ok (.aload_n 0, 1) := by decide +kernel
theorem dL_law_1984 : decode cL_law 1984 = .ok (.iload_n 3, 1) := by decide +kernel
theorem dL_law_1985 : decode cL_law 1985 = .ok (.iconst 2, 1) := by decide +kernel
theorem dL_law_1986 : decode cL_law 1986 = .ok (.iadd, 1) := by decide +kernel
theorem dL_law_1987 : decode cL_law 1987 = .ok (.iaload, 1) := by decide +kernel
theorem dL_law_1988 : decode cL_law 1988 = .ok (.aload_n 0, 1) := by decide +kernel
theorem dL_law_1989 : decode cL_law 1989 = .ok (.iload_n 3, 1) := by decide +kernel
theorem dL_law_1990 : decode cL_law 1990 = .ok (.iconst 3, 1) := by decide +kernel
theorem dL_law_1991 : decode cL_law 1991 = .ok (.iadd, 1) := by decide +kernel
theorem dL_law_1992 : decode cL_law 1992 = .ok (.iaload, 1) := by decide +kernel
theorem dL_law_1993 : decode cL_law 1993 = .ok (.invokevirtual 265, 3) := by decide +kernel
theorem dL_law_1996 : decode cL_law 1996 = .ok (.pop, 1) := by decide +kernel
theorem dL_law_1997 : decode cL_law 1997 = .ok (.aload_n 2, 1) := by decide +kernel
theorem dL_law_1998 : decode cL_law 1998 = .ok (.aload_n 0, 1) := by decide +kernel
theorem dL_law_1999 : decode cL_law 1999 = .ok (.iload_n 3, 1) := by decide +kernel
theorem dL_law_2000 : decode cL_law 2000 = .ok (.iconst 1, 1) := by decide +kernel
theorem dL_law_2001 : decode cL_law 2001 = .ok (.iadd, 1) := by decide +kernel
theorem dL_law_2002 : decode cL_law 2002 = .ok (.iaload, 1) := by decide +kernel
theorem dL_law_2003 : decode cL_law 2003 = .ok (.aload_n 0, 1) := by decide +kernel
theorem dL_law_2004 : decode cL_law 2004 = .ok (.iload_n 3, 1) := by decide +kernel
theorem dL_law_2005 : decode cL_law 2005 = .ok (.iconst 2, 1) := by decide +kernel
theorem dL_law_2006 : decode cL_law 2006 = .ok (.iadd, 1) := by decide +kernel
theorem dL_law_2007 : decode cL_law 2007 = .ok (.iaload, 1) := by decide +kernel
theorem dL_law_2008 : decode cL_law 2008 = .ok (.aload_n 0, 1) := by decide +kernel
theorem dL_law_2009 : decode cL_law 2009 = .ok (.iload_n 3, 1) := by decide +kernel
theorem dL_law_2010 : decode cL_law 2010 = .ok (.iconst 3, 1) := by decide +kernel
theorem dL_law_2011 : decode cL_law 2011 = .ok (.iadd, 1) := by decide +kernel
theorem dL_law_2012 : decode cL_law 2012 = .ok (.iaload, 1) := by decide +kernel
theorem dL_law_2013 : decode cL_law 2013 = .ok (.invokevirtual 268, 3) := by decide +kernel
theorem dL_law_2016 : decode cL_law 2016 = .ok (.pop, 1) := by decide +kernel
theorem dL_law_2017 : decode cL_law 2017 = .ok (.goto 139, 3) := by decide +kernel
theorem dL_law_2020 : decode cL_law 2020 = .ok (.aload_n 1, 1) := by decide +kernel
theorem dL_law_2021 : decode cL_law 2021 = .ok (.aload_n 0, 1) := by decide +kernel
theorem dL_law_2022 : decode cL_law 2022 = .ok (.iload_n 3, 1) := by decide +kernel
theorem dL_law_2023 : decode cL_law 2023 = .ok (.iconst 1, 1) := by decide +kernel
theorem dL_law_2024 : decode cL_law 2024 = .ok (.iadd, 1) := by decide +kernel
theorem dL_law_2025 : decode cL_law 2025 = .ok (.iaload, 1) := by decide +kernel
theorem dL_law_2026 : decode cL_law 2026 = .ok (.aload_n 0, 1) := by decide +kernel
theorem dL_law_2027 : decode cL_law 2027 = .ok (.iload_n 3, 1) := by decide +kernel
theorem dL_law_2028 : decode cL_law 2028 = .ok (.iconst 2, 1) := by decide +kernel
theorem dL_law_2029 : decode cL_law 2029 = .ok (.iadd, 1) := by decide +kernel
theorem dL_law_2030 : decode cL_law 2030 = .ok (.iaload, 1) := by decide +kernel
theorem dL_law_2031 : decode cL_law 2031 = .ok (.aload_n 0, 1) := by decide +kernel
theorem dL_law_2032 : decode cL_law 2032 = .ok (.iload_n 3, 1) := by decide +kernel
theorem dL_law_2033 : decode cL_law 2033 = .ok (.iconst 3, 1) := by decide +kernel
theorem dL_law_2034 : decode cL_law 2034 = .ok (.iadd, 1) := by decide +kernel
theorem dL_law_2035 : decode cL_law 2035 = .ok (.iaload, 1) := by decide +kernel
theorem dL_law_2036 : decode cL_law 2036 = .ok (.i2l, 1) := by decide +kernel
theorem dL_law_2037 : decode cL_law 2037 = .ok (.bipush 32, 2) := by decide +kernel
theorem dL_law_2039 : decode cL_law 2039 = .ok (.lshl, 1) := by decide +kernel
theorem dL_law_2040 : decode cL_law 2040 = .ok (.aload_n 0, 1) := by decide +kernel
theorem dL_law_2041 : decode cL_law 2041 = .ok (.iload_n 3, 1) := by decide +kernel
theorem dL_law_2042 : decode cL_law 2042 = .ok (.iconst 4, 1) := by decide +kernel
theorem dL_law_2043 : decode cL_law 2043 = .ok (.iadd, 1) := by decide +kernel
theorem dL_law_2044 : decode cL_law 2044 = .ok (.iaload, 1) := by decide +kernel
theorem dL_law_2045 : decode cL_law 2045 = .ok (.i2l, 1) := by decide +kernel
theorem dL_law_2046 : decode cL_law 2046 = .ok (.ldc2_w 269, 3) := by decide +kernel
theorem dL_law_2049 : decode cL_law 2049 = .ok (.land, 1) := by decide +kernel
theorem dL_law_2050 : decode cL_law 2050 = .ok (.lor, 1) := by decide +kernel
theorem dL_law_2051 : decode cL_law 2051 = .ok (.invokevirtual 271, 3) := by decide +kernel
theorem dL_law_2054 : decode cL_law 2054 = .ok (.pop, 1) := by decide +kernel
theorem dL_law_2055 : decode cL_law 2055 = .ok (.aload_n 2, 1) := by decide +kernel
theorem dL_law_2056 : decode cL_law 2056 = .ok (.aload_n 0, 1) := by decide +kernel
theorem dL_law_2057 : decode cL_law 2057 = .ok (.iload_n 3, 1) := by decide +kernel
theorem dL_law_2058 : decode cL_law 2058 = .ok (.iconst 1, 1) := by decide +kernel
theorem dL_law_2059 : decode cL_law 2059 = .ok (.iadd, 1) := by decide +kernel
theorem dL_law_2060 : decode cL_law 2060 = .ok (.iaload, 1) := by decide +kernel
theorem dL_law_2061 : decode cL_law 2061 = .ok (.aload_n 0, 1) := by decide +kernel
theorem dL_law_2062 : decode cL_law 2062 = .ok (.iload_n 3, 1) := by decide +kernel
theorem dL_law_2063 : decode cL_law 2063 = .ok (.iconst 2, 1) := by decide +kernel
theorem dL_law_2064 : decode cL_law 2064 = .ok (.iadd, 1) := by decide +kernel
theorem dL_law_2065 : decode cL_law 2065 = .ok (.iaload, 1) := by decide +kernel
theorem dL_law_2066 : decode cL_law 2066 = .ok (.aload_n 0, 1) := by decide +kernel
theorem dL_law_2067 : decode cL_law 2067 = .ok (.iload_n 3, 1) := by decide +kernel
theorem dL_law_2068 : decode cL_law 2068 = .ok (.iconst 3, 1) := by decide +kernel
theorem dL_law_2069 : decode cL_law 2069 = .ok (.iadd, 1) := by decide +kernel
theorem dL_law_2070 : decode cL_law 2070 = .ok (.iaload, 1) := by decide +kernel
theorem dL_law_2071 : decode cL_law 2071 = .ok (.i2l, 1) := by decide +kernel
theorem dL_law_2072 : decode cL_law 2072 = .ok (.bipush 32, 2) := by decide +kernel
theorem dL_law_2074 : decode cL_law 2074 = .ok (.lshl, 1) := by decide +kernel
theorem dL_law_2075 : decode cL_law 2075 = .ok (.aload_n 0, 1) := by decide +kernel
theorem dL_law_2076 : decode cL_law 2076 = .ok (.iload_n 3, 1) := by decide +kernel
theorem dL_law_2077 : decode cL_law 2077 = .ok (.iconst 4, 1) := by decide +kernel
theorem dL_law_2078 : decode cL_law 2078 = .ok (.iadd, 1) := by decide +kernel
theorem dL_law_2079 : decode cL_law 2079 = .ok (.iaload, 1) := by decide +kernel
theorem dL_law_2080 : decode cL_law 2080 = .ok (.i2l, 1) := by decide +kernel
theorem dL_law_2081 : decode cL_law 2081 = .ok (.ldc2_w 269, 3) := by decide +kernel
theorem dL_law_2084 : decode cL_law 2084 = .ok (.land, 1) := by decide +kernel
theorem dL_law_2085 : decode cL_law 2085 = .ok (.lor, 1) := by decide +kernel
theorem dL_law_2086 : decode cL_law 2086 = .ok (.invokevirtual 275, 3) := by decide +kernel
theorem dL_law_2089 : decode cL_law 2089 = .ok (.pop, 1) := by decide +kernel
theorem dL_law_2090 : decode cL_law 2090 = .ok (.goto 66, 3) := by decide +kernel
theorem dL_law_2093 : decode cL_law 2093 = .ok (.aload_n 1, 1) := by decide +kernel
theorem dL_law_2094 : decode cL_law 2094 = .ok (.aload_n 0, 1) := by decide +kernel
theorem dL_law_2095 : decode cL_law 2095 = .ok (.iload_n 3, 1) := by decide +kernel
theorem dL_law_2096 : decode cL_law 2096 = .ok (.iconst 1, 1) := by decide +kernel
theorem dL_law_2097 : decode cL_law 2097 = .ok (.iadd, 1) := by decide +kernel
theorem dL_law_2098 : decode cL_law 2098 = .ok (.iaload, 1) := by decide +kernel
theorem dL_law_2099 : decode cL_law 2099 = .ok (.aload_n 0, 1) := by decide +kernel
theorem dL_law_2100 : decode cL_law 2100 = .ok (.iload_n 3, 1) := by decide +kernel
theorem dL_law_2101 : decode cL_law 2101 = .ok (.iconst 2, 1) := by decide +kernel
theorem dL_law_2102 : decode cL_law 2102 = .ok (.iadd, 1) := by decide +kernel
theorem dL_law_2103 : decode cL_law 2103 = .ok (.iaload, 1) := by decide +kernel
theorem dL_law_2104 : decode cL_law 2104 = .ok (.aload_n 0, 1) := by decide +kernel
theorem dL_law_2105 : decode cL_law 2105 = .ok (.iload_n 3, 1) := by decide +kernel
theorem dL_law_2106 : decode cL_law 2106 = .ok (.iconst 3, 1) := by decide +kernel
theorem dL_law_2107 : decode cL_law 2107 = .ok (.iadd, 1) := by decide +kernel
theorem dL_law_2108 : decode cL_law 2108 = .ok (.iaload, 1) := by decide +kernel
theorem dL_law_2109 : decode cL_law 2109 = .ok (.aload_n 0, 1) := by decide +kernel
theorem dL_law_2110 : decode cL_law 2110 = .ok (.iload_n 3, 1) := by decide +kernel
theorem dL_law_2111 : decode cL_law 2111 = .ok (.iconst 4, 1) := by decide +kernel
theorem dL_law_2112 : decode cL_law 2112 = .ok (.iadd, 1) := by decide +kernel
theorem dL_law_2113 : decode cL_law 2113 = .ok (.iaload, 1) := by decide +kernel
theorem dL_law_2114 : decode cL_law 2114 = .ok (.aload_n 0, 1) := by decide +kernel
theorem dL_law_2115 : decode cL_law 2115 = .ok (.iload_n 3, 1) := by decide +kernel
theorem dL_law_2116 : decode cL_law 2116 = .ok (.iconst 5, 1) := by decide +kernel
theorem dL_law_2117 : decode cL_law 2117 = .ok (.iadd, 1) := by decide +kernel
theorem dL_law_2118 : decode cL_law 2118 = .ok (.iaload, 1) := by decide +kernel
theorem dL_law_2119 : decode cL_law 2119 = .ok (.invokevirtual 276, 3) := by decide +kernel
theorem dL_law_2122 : decode cL_law 2122 = .ok (.aload_n 2, 1) := by decide +kernel
theorem dL_law_2123 : decode cL_law 2123 = .ok (.aload_n 0, 1) := by decide +kernel
theorem dL_law_2124 : decode cL_law 2124 = .ok (.iload_n 3, 1) := by decide +kernel
theorem dL_law_2125 : decode cL_law 2125 = .ok (.iconst 1, 1) := by decide +kernel
theorem dL_law_2126 : decode cL_law 2126 = .ok (.iadd, 1) := by decide +kernel
theorem dL_law_2127 : decode cL_law 2127 = .ok (.iaload, 1) := by decide +kernel
theorem dL_law_2128 : decode cL_law 2128 = .ok (.aload_n 0, 1) := by decide +kernel
theorem dL_law_2129 : decode cL_law 2129 = .ok (.iload_n 3, 1) := by decide +kernel
theorem dL_law_2130 : decode cL_law 2130 = .ok (.iconst 2, 1) := by decide +kernel
theorem dL_law_2131 : decode cL_law 2131 = .ok (.iadd, 1) := by decide +kernel
theorem dL_law_2132 : decode cL_law 2132 = .ok (.iaload, 1) := by decide +kernel
theorem dL_law_2133 : decode cL_law 2133 = .ok (.aload_n 0, 1) := by decide +kernel
theorem dL_law_2134 : decode cL_law 2134 = .ok (.iload_n 3, 1) := by decide +kernel
theorem dL_law_2135 : decode cL_law 2135 = .ok (.iconst 3, 1) := by decide +kernel
theorem dL_law_2136 : decode cL_law 2136 = .ok (.iadd, 1) := by decide +kernel
theorem dL_law_2137 : decode cL_law 2137 = .ok (.iaload, 1) := by decide +kernel
theorem dL_law_2138 : decode cL_law 2138 = .ok (.aload_n 0, 1) := by decide +kernel
theorem dL_law_2139 : decode cL_law 2139 = .ok (.iload_n 3, 1) := by decide +kernel
theorem dL_law_2140 : decode cL_law 2140 = .ok (.iconst 4, 1) := by decide +kernel
theorem dL_law_2141 : decode cL_law 2141 = .ok (.iadd, 1) := by decide +kernel
theorem dL_law_2142 : decode cL_law 2142 = .ok (.iaload, 1) := by decide +kernel
theorem dL_law_2143 : decode cL_law 2143 = .ok (.aload_n 0, 1) := by decide +kernel
theorem dL_law_2144 : decode cL_law 2144 = .ok (.iload_n 3, 1) := by decide +kernel
theorem dL_law_2145 : decode cL_law 2145 = .ok (.iconst 5, 1) := by decide +kernel
theorem dL_law_2146 : decode cL_law 2146 = .ok (.iadd, 1) := by decide +kernel
theorem dL_law_2147 : decode cL_law 2147 = .ok (.iaload, 1) := by decide +kernel
theorem dL_law_2148 : decode cL_law 2148 = .ok (.invokevirtual 279, 3) := by decide +kernel
theorem dL_law_2151 : decode cL_law 2151 = .ok (.if_icmp .eq 5, 3) := by decide +kernel
theorem dL_law_0 : decode cL_law 0 = .ok (.new 7, 3) := by decide +kernel
theorem dL_law_3 : decode cL_law 3 = .ok (.dup, 1) := by decide +kernel
theorem dL_law_4 : decode cL_law 4 = .ok (.invokespecial 9, 3) := by decide +kernel
theorem dL_law_7 : decode cL_law 7 = .ok (.astore_n 1, 1) := by decide +kernel
theorem dL_law_8 : decode cL_law 8 = .ok (.new 10, 3) := by decide +kernel
theorem dL_law_11 : decode cL_law 11 = .ok (.dup, 1) := by decide +kernel
theorem dL_law_12 : decode cL_law 12 = .ok (.invokespecial 12, 3) := by decide +kernel
theorem dL_law_15 : decode cL_law 15 = .ok (.astore_n 2, 1) := by decide +kernel
theorem dL_law_16 : decode cL_law 16 = .ok (.iconst 0, 1) := by decide +kernel
theorem dL_law_17 : decode cL_law 17 = .ok (.istore_n 3, 1) := by decide +kernel
theorem dL_law_18 : decode cL_law 18 = .ok (.iload_n 3, 1) := by decide +kernel
theorem dL_law_19 : decode cL_law 19 = .ok (.aload_n 0, 1) := by decide +kernel
theorem dL_law_20 : decode cL_law 20 = .ok (.arraylength, 1) := by decide +kernel
theorem dL_law_21 : decode cL_law 21 = .ok (.bipush 6, 2) := by decide +kernel
theorem dL_law_23 : decode cL_law 23 = .ok (.isub, 1) := by decide +kernel
theorem dL_law_24 : decode cL_law 24 = .ok (.if_icmp .gt 2138, 3) := by decide +kernel
theorem dL_law_2162 : decode cL_law 2162 = .ok (.iconst 1, 1) := by decide +kernel
theorem dL_law_2163 : decode cL_law 2163 = .ok (.ireturn, 1) := by decide +kernel
theorem dL_law_27 : decode cL_law 27 = .ok (.aload_n 0, 1) := by decide +kernel
theorem dL_law_28 : decode cL_law 28 = .ok (.iload_n 3, 1) := by decide +kernel
theorem dL_law_29 : decode cL_law 29 = .ok (.iaload, 1) := by decide +kernel
theorem dL_law_30 : decode cL_law 30 = .ok (.bipush 63, 2) := by decide +kernel
theorem dL_law_32 : decode cL_law 32 = .ok (.iand, 1) := by decide +kernel
theorem dL_law_2159 : decode cL_law 2159 = .ok (.goto (-2141), 3) := by decide +kernel
