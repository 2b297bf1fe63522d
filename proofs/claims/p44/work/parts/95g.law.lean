set_option maxRecDepth 20000 in
theorem dL_1208 : decode code 1208 = .ok (.iadd, 1) := by decide +kernel
set_option maxRecDepth 20000 in
theorem dL_1209 : decode code 1209 = .ok (.iaload, 1) := by decide +kernel
set_option maxRecDepth 20000 in
theorem dL_1210 : decode code 1210 = .ok (.aload_n 0, 1) := by decide +kernel
set_option maxRecDepth 20000 in
theorem dL_1211 : decode code 1211 = .ok (.iload_n 3, 1) := by decide +kernel
set_option maxRecDepth 20000 in
theorem dL_1212 : decode code 1212 = .ok (.iconst 2, 1) := by decide +kernel
set_option maxRecDepth 20000 in
theorem dL_1213 : decode code 1213 = .ok (.iadd, 1) := by decide +kernel
set_option maxRecDepth 20000 in
theorem dL_1214 : decode code 1214 = .ok (.iaload, 1) := by decide +kernel
set_option maxRecDepth 20000 in
theorem dL_1215 : decode code 1215 = .ok (.invokevirtual 157, 3) := by decide +kernel
set_option maxRecDepth 20000 in
theorem dL_1218 : decode code 1218 = .ok (.pop, 1) := by decide +kernel
set_option maxRecDepth 20000 in
theorem dL_1219 : decode code 1219 = .ok (.goto 310, 3) := by decide +kernel
set_option maxRecDepth 20000 in
theorem dL_1222 : decode code 1222 = .ok (.aload_n 1, 1) := by decide +kernel
set_option maxRecDepth 20000 in
theorem dL_1223 : decode code 1223 = .ok (.invokevirtual 158, 3) := by decide +kernel
set_option maxRecDepth 20000 in
theorem dL_1226 : decode code 1226 = .ok (.pop, 1) := by decide +kernel
set_option maxRecDepth 20000 in
theorem dL_1227 : decode code 1227 = .ok (.aload_n 2, 1) := by decide +kernel
set_option maxRecDepth 20000 in
theorem dL_1228 : decode code 1228 = .ok (.invokevirtual 161, 3) := by decide +kernel
set_option maxRecDepth 20000 in
theorem dL_1231 : decode code 1231 = .ok (.pop, 1) := by decide +kernel
set_option maxRecDepth 20000 in
theorem dL_1232 : decode code 1232 = .ok (.goto 297, 3) := by decide +kernel
set_option maxRecDepth 20000 in
theorem dL_1235 : decode code 1235 = .ok (.aload_n 1, 1) := by decide +kernel
set_option maxRecDepth 20000 in
theorem dL_1236 : decode code 1236 = .ok (.aload_n 0, 1) := by decide +kernel
set_option maxRecDepth 20000 in
theorem dL_1237 : decode code 1237 = .ok (.iload_n 3, 1) := by decide +kernel
set_option maxRecDepth 20000 in
theorem dL_1238 : decode code 1238 = .ok (.iconst 1, 1) := by decide +kernel
set_option maxRecDepth 20000 in
theorem dL_1239 : decode code 1239 = .ok (.iadd, 1) := by decide +kernel
set_option maxRecDepth 20000 in
theorem dL_1240 : decode code 1240 = .ok (.iaload, 1) := by decide +kernel
set_option maxRecDepth 20000 in
theorem dL_1241 : decode code 1241 = .ok (.invokevirtual 162, 3) := by decide +kernel
set_option maxRecDepth 20000 in
theorem dL_1244 : decode code 1244 = .ok (.pop, 1) := by decide +kernel
set_option maxRecDepth 20000 in
theorem dL_1245 : decode code 1245 = .ok (.aload_n 2, 1) := by decide +kernel
set_option maxRecDepth 20000 in
theorem dL_1246 : decode code 1246 = .ok (.aload_n 0, 1) := by decide +kernel
set_option maxRecDepth 20000 in
theorem dL_1247 : decode code 1247 = .ok (.iload_n 3, 1) := by decide +kernel
set_option maxRecDepth 20000 in
theorem dL_1248 : decode code 1248 = .ok (.iconst 1, 1) := by decide +kernel
set_option maxRecDepth 20000 in
theorem dL_1249 : decode code 1249 = .ok (.iadd, 1) := by decide +kernel
set_option maxRecDepth 20000 in
theorem dL_1250 : decode code 1250 = .ok (.iaload, 1) := by decide +kernel
set_option maxRecDepth 20000 in
theorem dL_1251 : decode code 1251 = .ok (.invokevirtual 165, 3) := by decide +kernel
set_option maxRecDepth 20000 in
theorem dL_1254 : decode code 1254 = .ok (.pop, 1) := by decide +kernel
set_option maxRecDepth 20000 in
theorem dL_1255 : decode code 1255 = .ok (.goto 274, 3) := by decide +kernel
set_option maxRecDepth 20000 in
theorem dL_1258 : decode code 1258 = .ok (.aload_n 1, 1) := by decide +kernel
set_option maxRecDepth 20000 in
theorem dL_1259 : decode code 1259 = .ok (.aload_n 0, 1) := by decide +kernel
set_option maxRecDepth 20000 in
theorem dL_1260 : decode code 1260 = .ok (.iload_n 3, 1) := by decide +kernel
set_option maxRecDepth 20000 in
theorem dL_1261 : decode code 1261 = .ok (.iconst 1, 1) := by decide +kernel
set_option maxRecDepth 20000 in
theorem dL_1262 : decode code 1262 = .ok (.iadd, 1) := by decide +kernel
set_option maxRecDepth 20000 in
theorem dL_1263 : decode code 1263 = .ok (.iaload, 1) := by decide +kernel
set_option maxRecDepth 20000 in
theorem dL_1264 : decode code 1264 = .ok (.invokevirtual 166, 3) := by decide +kernel
set_option maxRecDepth 20000 in
theorem dL_1267 : decode code 1267 = .ok (.pop, 1) := by decide +kernel
set_option maxRecDepth 20000 in
theorem dL_1268 : decode code 1268 = .ok (.aload_n 2, 1) := by decide +kernel
set_option maxRecDepth 20000 in
theorem dL_1269 : decode code 1269 = .ok (.aload_n 0, 1) := by decide +kernel
set_option maxRecDepth 20000 in
theorem dL_1270 : decode code 1270 = .ok (.iload_n 3, 1) := by decide +kernel
set_option maxRecDepth 20000 in
theorem dL_1271 : decode code 1271 = .ok (.iconst 1, 1) := by decide +kernel
set_option maxRecDepth 20000 in
theorem dL_1272 : decode code 1272 = .ok (.iadd, 1) := by decide +kernel
set_option maxRecDepth 20000 in
theorem dL_1273 : decode code 1273 = .ok (.iaload, 1) := by decide +kernel
set_option maxRecDepth 20000 in
theorem dL_1274 : decode code 1274 = .ok (.invokevirtual 169, 3) := by decide +kernel
set_option maxRecDepth 20000 in
theorem dL_1277 : decode code 1277 = .ok (.pop, 1) := by decide +kernel
set_option maxRecDepth 20000 in
theorem dL_1278 : decode code 1278 = .ok (.goto 251, 3) := by decide +kernel
set_option maxRecDepth 20000 in
theorem dL_1281 : decode code 1281 = .ok (.aload_n 1, 1) := by decide +kernel
set_option maxRecDepth 20000 in
theorem dL_1282 : decode code 1282 = .ok (.aload_n 0, 1) := by decide +kernel
set_option maxRecDepth 20000 in
theorem dL_1283 : decode code 1283 = .ok (.iload_n 3, 1) := by decide +kernel
set_option maxRecDepth 20000 in
theorem dL_1284 : decode code 1284 = .ok (.iconst 1, 1) := by decide +kernel
set_option maxRecDepth 20000 in
theorem dL_1285 : decode code 1285 = .ok (.iadd, 1) := by decide +kernel
set_option maxRecDepth 20000 in
theorem dL_1286 : decode code 1286 = .ok (.iaload, 1) := by decide +kernel
set_option maxRecDepth 20000 in
theorem dL_1287 : decode code 1287 = .ok (.invokevirtual 170, 3) := by decide +kernel
set_option maxRecDepth 20000 in
theorem dL_1290 : decode code 1290 = .ok (.pop, 1) := by decide +kernel
set_option maxRecDepth 20000 in
theorem dL_1291 : decode code 1291 = .ok (.aload_n 2, 1) := by decide +kernel
set_option maxRecDepth 20000 in
theorem dL_1292 : decode code 1292 = .ok (.aload_n 0, 1) := by decide +kernel
set_option maxRecDepth 20000 in
theorem dL_1293 : decode code 1293 = .ok (.iload_n 3, 1) := by decide +kernel
set_option maxRecDepth 20000 in
theorem dL_1294 : decode code 1294 = .ok (.iconst 1, 1) := by decide +kernel
set_option maxRecDepth 20000 in
theorem dL_1295 : decode code 1295 = .ok (.iadd, 1) := by decide +kernel
set_option maxRecDepth 20000 in
theorem dL_1296 : decode code 1296 = .ok (.iaload, 1) := by decide +kernel
set_option maxRecDepth 20000 in
theorem dL_1297 : decode code 1297 = .ok (.invokevirtual 173, 3) := by decide +kernel
set_option maxRecDepth 20000 in
theorem dL_1300 : decode code 1300 = .ok (.pop, 1) := by decide +kernel
set_option maxRecDepth 20000 in
theorem dL_1301 : decode code 1301 = .ok (.goto 228, 3) := by decide +kernel
set_option maxRecDepth 20000 in
theorem dL_1304 : decode code 1304 = .ok (.aload_n 1, 1) := by decide +kernel
set_option maxRecDepth 20000 in
theorem dL_1305 : decode code 1305 = .ok (.aload_n 0, 1) := by decide +kernel
set_option maxRecDepth 20000 in
theorem dL_1306 : decode code 1306 = .ok (.iload_n 3, 1) := by decide +kernel
set_option maxRecDepth 20000 in
theorem dL_1307 : decode code 1307 = .ok (.iconst 1, 1) := by decide +kernel
set_option maxRecDepth 20000 in
theorem dL_1308 : decode code 1308 = .ok (.iadd, 1) := by decide +kernel
set_option maxRecDepth 20000 in
theorem dL_1309 : decode code 1309 = .ok (.iaload, 1) := by decide +kernel
set_option maxRecDepth 20000 in
theorem dL_1310 : decode code 1310 = .ok (.invokevirtual 174, 3) := by decide +kernel
set_option maxRecDepth 20000 in
theorem dL_1313 : decode code 1313 = .ok (.pop, 1) := by decide +kernel
set_option maxRecDepth 20000 in
theorem dL_1314 : decode code 1314 = .ok (.aload_n 2, 1) := by decide +kernel
set_option maxRecDepth 20000 in
theorem dL_1315 : decode code 1315 = .ok (.aload_n 0, 1) := by decide +kernel
set_option maxRecDepth 20000 in
theorem dL_1316 : decode code 1316 = .ok (.iload_n 3, 1) := by decide +kernel
set_option maxRecDepth 20000 in
theorem dL_1317 : decode code 1317 = .ok (.iconst 1, 1) := by decide +kernel
set_option maxRecDepth 20000 in
theorem dL_1318 : decode code 1318 = .ok (.iadd, 1) := by decide +kernel
set_option maxRecDepth 20000 in
theorem dL_1319 : decode code 1319 = .ok (.iaload, 1) := by decide +kernel
set_option maxRecDepth 20000 in
theorem dL_1320 : decode code 1320 = .ok (.invokevirtual 177, 3) := by decide +kernel
set_option maxRecDepth 20000 in
theorem dL_1323 : decode code 1323 = .ok (.pop, 1) := by decide +kernel
set_option maxRecDepth 20000 in
theorem dL_1324 : decode code 1324 = .ok (.goto 205, 3) := by decide +kernel
set_option maxRecDepth 20000 in
theorem dL_1327 : decode code 1327 = .ok (.aload_n 1, 1) := by decide +kernel
set_option maxRecDepth 20000 in
theorem dL_1328 : decode code 1328 = .ok (.aload_n 0, 1) := by decide +kernel
set_option maxRecDepth 20000 in
theorem dL_1329 : decode code 1329 = .ok (.iload_n 3, 1) := by decide +kernel
set_option maxRecDepth 20000 in
theorem dL_1330 : decode code 1330 = .ok (.iconst 1, 1) := by decide +kernel
set_option maxRecDepth 20000 in
theorem dL_1331 : decode code 1331 = .ok (.iadd, 1) := by decide +kernel
set_option maxRecDepth 20000 in
theorem dL_1332 : decode code 1332 = .ok (.iaload, 1) := by decide +kernel
set_option maxRecDepth 20000 in
theorem dL_1333 : decode code 1333 = .ok (.invokevirtual 178, 3) := by decide +kernel
set_option maxRecDepth 20000 in
theorem dL_1336 : decode code 1336 = .ok (.pop, 1) := by decide +kernel
set_option maxRecDepth 20000 in
theorem dL_1337 : decode code 1337 = .ok (.aload_n 2, 1) := by decide +kernel
set_option maxRecDepth 20000 in
theorem dL_1338 : decode code 1338 = .ok (.aload_n 0, 1) := by decide +kernel
set_option maxRecDepth 20000 in
theorem dL_1339 : decode code 1339 = .ok (.iload_n 3, 1) := by decide +kernel
set_option maxRecDepth 20000 in
theorem dL_1340 : decode code 1340 = .ok (.iconst 1, 1) := by decide +kernel
set_option maxRecDepth 20000 in
theorem dL_1341 : decode code 1341 = .ok (.iadd, 1) := by decide +kernel
set_option maxRecDepth 20000 in
theorem dL_1342 : decode code 1342 = .ok (.iaload, 1) := by decide +kernel
set_option maxRecDepth 20000 in
theorem dL_1343 : decode code 1343 = .ok (.invokevirtual 181, 3) := by decide +kernel
set_option maxRecDepth 20000 in
theorem dL_1346 : decode code 1346 = .ok (.pop, 1) := by decide +kernel
set_option maxRecDepth 20000 in
theorem dL_1347 : decode code 1347 = .ok (.goto 182, 3) := by decide +kernel
set_option maxRecDepth 20000 in
theorem dL_1350 : decode code 1350 = .ok (.aload_n 1, 1) := by decide +kernel
set_option maxRecDepth 20000 in
theorem dL_1351 : decode code 1351 = .ok (.aload_n 0, 1) := by decide +kernel
set_option maxRecDepth 20000 in
theorem dL_1352 : decode code 1352 = .ok (.iload_n 3, 1) := by decide +kernel
set_option maxRecDepth 20000 in
theorem dL_1353 : decode code 1353 = .ok (.iconst 1, 1) := by decide +kernel
set_option maxRecDepth 20000 in
theorem dL_1354 : decode code 1354 = .ok (.iadd, 1) := by decide +kernel
set_option maxRecDepth 20000 in
theorem dL_1355 : decode code 1355 = .ok (.iaload, 1) := by decide +kernel
set_option maxRecDepth 20000 in
theorem dL_1356 : decode code 1356 = .ok (.aload_n 0, 1) := by decide +kernel
set_option maxRecDepth 20000 in
theorem dL_1357 : decode code 1357 = .ok (.iload_n 3, 1) := by decide +kernel
set_option maxRecDepth 20000 in
theorem dL_1358 : decode code 1358 = .ok (.iconst 2, 1) := by decide +kernel
set_option maxRecDepth 20000 in
theorem dL_1359 : decode code 1359 = .ok (.iadd, 1) := by decide +kernel
set_option maxRecDepth 20000 in
theorem dL_1360 : decode code 1360 = .ok (.iaload, 1) := by decide +kernel
set_option maxRecDepth 20000 in
theorem dL_1361 : decode code 1361 = .ok (.aload_n 0, 1) := by decide +kernel
set_option maxRecDepth 20000 in
theorem dL_1362 : decode code 1362 = .ok (.iload_n 3, 1) := by decide +kernel
set_option maxRecDepth 20000 in
theorem dL_1363 : decode code 1363 = .ok (.iconst 3, 1) := by decide +kernel
set_option maxRecDepth 20000 in
theorem dL_1364 : decode code 1364 = .ok (.iadd, 1) := by decide +kernel
set_option maxRecDepth 20000 in
theorem dL_1365 : decode code 1365 = .ok (.iaload, 1) := by decide +kernel
set_option maxRecDepth 20000 in
theorem dL_1366 : decode code 1366 = .ok (.invokevirtual 182, 3) := by decide +kernel
set_option maxRecDepth 20000 in
theorem dL_1369 : decode code 1369 = .ok (.pop, 1) := by decide +kernel
set_option maxRecDepth 20000 in
theorem dL_1370 : decode code 1370 = .ok (.aload_n 2, 1) := by decide +kernel
set_option maxRecDepth 20000 in
theorem dL_1371 : decode code 1371 = .ok (.aload_n 0, 1) := by decide +kernel
set_option maxRecDepth 20000 in
theorem dL_1372 : decode code 1372 = .ok (.iload_n 3, 1) := by decide +kernel
set_option maxRecDepth 20000 in
theorem dL_1373 : decode code 1373 = .ok (.iconst 1, 1) := by decide +kernel
set_option maxRecDepth 20000 in
theorem dL_1374 : decode code 1374 = .ok (.iadd, 1) := by decide +kernel
set_option maxRecDepth 20000 in
theorem dL_1375 : decode code 1375 = .ok (.iaload, 1) := by decide +kernel
set_option maxRecDepth 20000 in
theorem dL_1376 : decode code 1376 = .ok (.aload_n 0, 1) := by decide +kernel
set_option maxRecDepth 20000 in
theorem dL_1377 : decode code 1377 = .ok (.iload_n 3, 1) := by decide +kernel
set_option maxRecDepth 20000 in
theorem dL_1378 : decode code 1378 = .ok (.iconst 2, 1) := by decide +kernel
set_option maxRecDepth 20000 in
theorem dL_1379 : decode code 1379 = .ok (.iadd, 1) := by decide +kernel
set_option maxRecDepth 20000 in
theorem dL_1380 : decode code 1380 = .ok (.iaload, 1) := by decide +kernel
set_option maxRecDepth 20000 in
theorem dL_1381 : decode code 1381 = .ok (.aload_n 0, 1) := by decide +kernel
set_option maxRecDepth 20000 in
theorem dL_1382 : decode code 1382 = .ok (.iload_n 3, 1) := by decide +kernel
set_option maxRecDepth 20000 in
theorem dL_1383 : decode code 1383 = .ok (.iconst 3, 1) := by decide +kernel
set_option maxRecDepth 20000 in
theorem dL_1384 : decode code 1384 = .ok (.iadd, 1) := by decide +kernel
