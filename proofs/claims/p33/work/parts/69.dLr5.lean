theorem dL_isRefused_1189 : decode cL_isRefused 1189 = .ok (.if_icmp .ge 232, 3) := by decide +kernel
theorem dL_isRefused_1192 : decode cL_isRefused 1192 = .ok (.iload 12, 2) := by decide +kernel
theorem dL_isRefused_1194 : decode cL_isRefused 1194 = .ok (.ifCond .eq 227, 3) := by decide +kernel
theorem dL_isRefused_1197 : decode cL_isRefused 1197 = .ok (.aload_n 0, 1) := by decide +kernel
theorem dL_isRefused_1198 : decode cL_isRefused 1198 = .ok (.iload 13, 2) := by decide +kernel
theorem dL_isRefused_1200 : decode cL_isRefused 1200 = .ok (.iconst 1, 1) := by decide +kernel
theorem dL_isRefused_1201 : decode cL_isRefused 1201 = .ok (.invokevirtual 97, 3) := by decide +kernel
theorem dL_isRefused_1204 : decode cL_isRefused 1204 = .ok (.ifCond .lt 7, 3) := by decide +kernel
theorem dL_isRefused_1207 : decode cL_isRefused 1207 = .ok (.iconst 1, 1) := by decide +kernel
theorem dL_isRefused_1208 : decode cL_isRefused 1208 = .ok (.goto 4, 3) := by decide +kernel
theorem dL_isRefused_1211 : decode cL_isRefused 1211 = .ok (.iconst 0, 1) := by decide +kernel
theorem dL_isRefused_1212 : decode cL_isRefused 1212 = .ok (.istore 14, 2) := by decide +kernel
theorem dL_isRefused_1214 : decode cL_isRefused 1214 = .ok (.aload_n 0, 1) := by decide +kernel
theorem dL_isRefused_1215 : decode cL_isRefused 1215 = .ok (.bipush 19, 2) := by decide +kernel
theorem dL_isRefused_1217 : decode cL_isRefused 1217 = .ok (.iload 13, 2) := by decide +kernel
theorem dL_isRefused_1219 : decode cL_isRefused 1219 = .ok (.iload_n 3, 1) := by decide +kernel
theorem dL_isRefused_1220 : decode cL_isRefused 1220 = .ok (.ifCond .eq 12, 3) := by decide +kernel
theorem dL_isRefused_1223 : decode cL_isRefused 1223 = .ok (.iconst (-1), 1) := by decide +kernel
theorem dL_isRefused_1224 : decode cL_isRefused 1224 = .ok (.iload_n 2, 1) := by decide +kernel
theorem dL_isRefused_1225 : decode cL_isRefused 1225 = .ok (.bipush 30, 2) := by decide +kernel
theorem dL_isRefused_1227 : decode cL_isRefused 1227 = .ok (.irem, 1) := by decide +kernel
theorem dL_isRefused_1228 : decode cL_isRefused 1228 = .ok (.isub, 1) := by decide +kernel
theorem dL_isRefused_1229 : decode cL_isRefused 1229 = .ok (.goto 6, 3) := by decide +kernel
theorem dL_isRefused_1232 : decode cL_isRefused 1232 = .ok (.sipush 256, 3) := by decide +kernel
theorem dL_isRefused_1235 : decode cL_isRefused 1235 = .ok (.iconst 0, 1) := by decide +kernel
theorem dL_isRefused_1236 : decode cL_isRefused 1236 = .ok (.iconst 0, 1) := by decide +kernel
theorem dL_isRefused_1237 : decode cL_isRefused 1237 = .ok (.invokestatic 142, 3) := by decide +kernel
theorem dL_isRefused_1240 : decode cL_isRefused 1240 = .ok (.ifCond .eq 172, 3) := by decide +kernel
theorem dL_isRefused_1243 : decode cL_isRefused 1243 = .ok (.aload_n 0, 1) := by decide +kernel
theorem dL_isRefused_1244 : decode cL_isRefused 1244 = .ok (.bipush 21, 2) := by decide +kernel
theorem dL_isRefused_1246 : decode cL_isRefused 1246 = .ok (.iload 13, 2) := by decide +kernel
theorem dL_isRefused_1248 : decode cL_isRefused 1248 = .ok (.iload_n 3, 1) := by decide +kernel
theorem dL_isRefused_1249 : decode cL_isRefused 1249 = .ok (.ifCond .eq 12, 3) := by decide +kernel
theorem dL_isRefused_1252 : decode cL_isRefused 1252 = .ok (.iconst (-1), 1) := by decide +kernel
theorem dL_isRefused_1253 : decode cL_isRefused 1253 = .ok (.iload_n 2, 1) := by decide +kernel
theorem dL_isRefused_1254 : decode cL_isRefused 1254 = .ok (.bipush 30, 2) := by decide +kernel
theorem dL_isRefused_1256 : decode cL_isRefused 1256 = .ok (.irem, 1) := by decide +kernel
theorem dL_isRefused_1257 : decode cL_isRefused 1257 = .ok (.isub, 1) := by decide +kernel
theorem dL_isRefused_1258 : decode cL_isRefused 1258 = .ok (.goto 4, 3) := by decide +kernel
theorem dL_isRefused_1261 : decode cL_isRefused 1261 = .ok (.iconst 5, 1) := by decide +kernel
theorem dL_isRefused_1262 : decode cL_isRefused 1262 = .ok (.iconst 0, 1) := by decide +kernel
theorem dL_isRefused_1263 : decode cL_isRefused 1263 = .ok (.iconst 0, 1) := by decide +kernel
theorem dL_isRefused_1264 : decode cL_isRefused 1264 = .ok (.invokestatic 146, 3) := by decide +kernel
theorem dL_isRefused_1267 : decode cL_isRefused 1267 = .ok (.ifCond .eq 145, 3) := by decide +kernel
theorem dL_isRefused_1270 : decode cL_isRefused 1270 = .ok (.aload_n 0, 1) := by decide +kernel
theorem dL_isRefused_1271 : decode cL_isRefused 1271 = .ok (.bipush 25, 2) := by decide +kernel
theorem dL_isRefused_1273 : decode cL_isRefused 1273 = .ok (.iload 13, 2) := by decide +kernel
theorem dL_isRefused_1275 : decode cL_isRefused 1275 = .ok (.iload_n 3, 1) := by decide +kernel
theorem dL_isRefused_1276 : decode cL_isRefused 1276 = .ok (.ifCond .eq 7, 3) := by decide +kernel
theorem dL_isRefused_1279 : decode cL_isRefused 1279 = .ok (.iconst (-1), 1) := by decide +kernel
theorem dL_isRefused_1280 : decode cL_isRefused 1280 = .ok (.goto 10, 3) := by decide +kernel
theorem dL_isRefused_1283 : decode cL_isRefused 1283 = .ok (.bipush 6, 2) := by decide +kernel
theorem dL_isRefused_1285 : decode cL_isRefused 1285 = .ok (.iload_n 2, 1) := by decide +kernel
theorem dL_isRefused_1286 : decode cL_isRefused 1286 = .ok (.bipush 30, 2) := by decide +kernel
theorem dL_isRefused_1288 : decode cL_isRefused 1288 = .ok (.irem, 1) := by decide +kernel
theorem dL_isRefused_1289 : decode cL_isRefused 1289 = .ok (.iadd, 1) := by decide +kernel
theorem dL_isRefused_1290 : decode cL_isRefused 1290 = .ok (.iconst 0, 1) := by decide +kernel
theorem dL_isRefused_1291 : decode cL_isRefused 1291 = .ok (.iconst 0, 1) := by decide +kernel
theorem dL_isRefused_1292 : decode cL_isRefused 1292 = .ok (.invokestatic 142, 3) := by decide +kernel
theorem dL_isRefused_1295 : decode cL_isRefused 1295 = .ok (.ifCond .eq 117, 3) := by decide +kernel
theorem dL_isRefused_1298 : decode cL_isRefused 1298 = .ok (.aload_n 0, 1) := by decide +kernel
theorem dL_isRefused_1299 : decode cL_isRefused 1299 = .ok (.bipush 26, 2) := by decide +kernel
theorem dL_isRefused_1301 : decode cL_isRefused 1301 = .ok (.iload 13, 2) := by decide +kernel
theorem dL_isRefused_1303 : decode cL_isRefused 1303 = .ok (.iload_n 3, 1) := by decide +kernel
theorem dL_isRefused_1304 : decode cL_isRefused 1304 = .ok (.ifCond .eq 12, 3) := by decide +kernel
theorem dL_isRefused_1307 : decode cL_isRefused 1307 = .ok (.iconst 2, 1) := by decide +kernel
theorem dL_isRefused_1308 : decode cL_isRefused 1308 = .ok (.iload_n 2, 1) := by decide +kernel
theorem dL_isRefused_1309 : decode cL_isRefused 1309 = .ok (.bipush 30, 2) := by decide +kernel
theorem dL_isRefused_1311 : decode cL_isRefused 1311 = .ok (.irem, 1) := by decide +kernel
theorem dL_isRefused_1312 : decode cL_isRefused 1312 = .ok (.isub, 1) := by decide +kernel
theorem dL_isRefused_1313 : decode cL_isRefused 1313 = .ok (.goto 5, 3) := by decide +kernel
theorem dL_isRefused_1316 : decode cL_isRefused 1316 = .ok (.bipush 6, 2) := by decide +kernel
theorem dL_isRefused_1318 : decode cL_isRefused 1318 = .ok (.iconst 0, 1) := by decide +kernel
theorem dL_isRefused_1319 : decode cL_isRefused 1319 = .ok (.iconst 0, 1) := by decide +kernel
theorem dL_isRefused_1320 : decode cL_isRefused 1320 = .ok (.invokestatic 142, 3) := by decide +kernel
theorem dL_isRefused_1323 : decode cL_isRefused 1323 = .ok (.ifCond .eq 89, 3) := by decide +kernel
theorem dL_isRefused_1326 : decode cL_isRefused 1326 = .ok (.iload 14, 2) := by decide +kernel
theorem dL_isRefused_1328 : decode cL_isRefused 1328 = .ok (.ifCond .eq 62, 3) := by decide +kernel
theorem dL_isRefused_1331 : decode cL_isRefused 1331 = .ok (.aload_n 0, 1) := by decide +kernel
theorem dL_isRefused_1332 : decode cL_isRefused 1332 = .ok (.bipush 19, 2) := by decide +kernel
theorem dL_isRefused_1334 : decode cL_isRefused 1334 = .ok (.iload 13, 2) := by decide +kernel
theorem dL_isRefused_1336 : decode cL_isRefused 1336 = .ok (.iconst 0, 1) := by decide +kernel
theorem dL_isRefused_1337 : decode cL_isRefused 1337 = .ok (.iconst 0, 1) := by decide +kernel
theorem dL_isRefused_1338 : decode cL_isRefused 1338 = .ok (.iconst 0, 1) := by decide +kernel
theorem dL_isRefused_1339 : decode cL_isRefused 1339 = .ok (.invokestatic 123, 3) := by decide +kernel
theorem dL_isRefused_1342 : decode cL_isRefused 1342 = .ok (.ldc2_w 113, 3) := by decide +kernel
theorem dL_isRefused_1345 : decode cL_isRefused 1345 = .ok (.lcmp, 1) := by decide +kernel
theorem dL_isRefused_1346 : decode cL_isRefused 1346 = .ok (.ifCond .ne 66, 3) := by decide +kernel
theorem dL_isRefused_1349 : decode cL_isRefused 1349 = .ok (.aload_n 0, 1) := by decide +kernel
theorem dL_isRefused_1350 : decode cL_isRefused 1350 = .ok (.bipush 21, 2) := by decide +kernel
theorem dL_isRefused_1352 : decode cL_isRefused 1352 = .ok (.iload 13, 2) := by decide +kernel
theorem dL_isRefused_1354 : decode cL_isRefused 1354 = .ok (.iconst 0, 1) := by decide +kernel
theorem dL_isRefused_1355 : decode cL_isRefused 1355 = .ok (.iconst 0, 1) := by decide +kernel
theorem dL_isRefused_1356 : decode cL_isRefused 1356 = .ok (.iconst 0, 1) := by decide +kernel
theorem dL_isRefused_1357 : decode cL_isRefused 1357 = .ok (.invokestatic 123, 3) := by decide +kernel
theorem dL_isRefused_1360 : decode cL_isRefused 1360 = .ok (.ldc2_w 113, 3) := by decide +kernel
theorem dL_isRefused_1363 : decode cL_isRefused 1363 = .ok (.lcmp, 1) := by decide +kernel
theorem dL_isRefused_1364 : decode cL_isRefused 1364 = .ok (.ifCond .ne 48, 3) := by decide +kernel
theorem dL_isRefused_1367 : decode cL_isRefused 1367 = .ok (.aload_n 0, 1) := by decide +kernel
theorem dL_isRefused_1368 : decode cL_isRefused 1368 = .ok (.bipush 23, 2) := by decide +kernel
theorem dL_isRefused_1370 : decode cL_isRefused 1370 = .ok (.iload 13, 2) := by decide +kernel
theorem dL_isRefused_1372 : decode cL_isRefused 1372 = .ok (.iload_n 2, 1) := by decide +kernel
theorem dL_isRefused_1373 : decode cL_isRefused 1373 = .ok (.iconst 2, 1) := by decide +kernel
theorem dL_isRefused_1374 : decode cL_isRefused 1374 = .ok (.irem, 1) := by decide +kernel
theorem dL_isRefused_1375 : decode cL_isRefused 1375 = .ok (.iconst 0, 1) := by decide +kernel
theorem dL_isRefused_1376 : decode cL_isRefused 1376 = .ok (.iconst 0, 1) := by decide +kernel
theorem dL_isRefused_1377 : decode cL_isRefused 1377 = .ok (.invokestatic 123, 3) := by decide +kernel
theorem dL_isRefused_1380 : decode cL_isRefused 1380 = .ok (.ldc2_w 113, 3) := by decide +kernel
theorem dL_isRefused_1383 : decode cL_isRefused 1383 = .ok (.lcmp, 1) := by decide +kernel
theorem dL_isRefused_1384 : decode cL_isRefused 1384 = .ok (.ifCond .ne 28, 3) := by decide +kernel
theorem dL_isRefused_1387 : decode cL_isRefused 1387 = .ok (.goto 21, 3) := by decide +kernel
theorem dL_isRefused_1390 : decode cL_isRefused 1390 = .ok (.aload_n 0, 1) := by decide +kernel
theorem dL_isRefused_1391 : decode cL_isRefused 1391 = .ok (.bipush 22, 2) := by decide +kernel
theorem dL_isRefused_1393 : decode cL_isRefused 1393 = .ok (.iload 13, 2) := by decide +kernel
theorem dL_isRefused_1395 : decode cL_isRefused 1395 = .ok (.iconst 0, 1) := by decide +kernel
theorem dL_isRefused_1396 : decode cL_isRefused 1396 = .ok (.iconst 0, 1) := by decide +kernel
theorem dL_isRefused_1397 : decode cL_isRefused 1397 = .ok (.iconst 0, 1) := by decide +kernel
theorem dL_isRefused_1398 : decode cL_isRefused 1398 = .ok (.invokestatic 123, 3) := by decide +kernel
theorem dL_isRefused_1401 : decode cL_isRefused 1401 = .ok (.ldc2_w 113, 3) := by decide +kernel
theorem dL_isRefused_1404 : decode cL_isRefused 1404 = .ok (.lcmp, 1) := by decide +kernel
theorem dL_isRefused_1405 : decode cL_isRefused 1405 = .ok (.ifCond .ne 7, 3) := by decide +kernel
theorem dL_isRefused_1408 : decode cL_isRefused 1408 = .ok (.iconst 1, 1) := by decide +kernel
theorem dL_isRefused_1409 : decode cL_isRefused 1409 = .ok (.goto 4, 3) := by decide +kernel
theorem dL_isRefused_1412 : decode cL_isRefused 1412 = .ok (.iconst 0, 1) := by decide +kernel
theorem dL_isRefused_1413 : decode cL_isRefused 1413 = .ok (.istore 12, 2) := by decide +kernel
theorem dL_isRefused_1415 : decode cL_isRefused 1415 = .ok (.iinc 13 1, 3) := by decide +kernel
theorem dL_isRefused_1418 : decode cL_isRefused 1418 = .ok (.goto (-234), 3) := by decide +kernel
theorem dL_isRefused_1421 : decode cL_isRefused 1421 = .ok (.iload 12, 2) := by decide +kernel
theorem dL_isRefused_1423 : decode cL_isRefused 1423 = .ok (.ifCond .eq 18, 3) := by decide +kernel
theorem dL_isRefused_1426 : decode cL_isRefused 1426 = .ok (.aload_n 0, 1) := by decide +kernel
theorem dL_isRefused_1427 : decode cL_isRefused 1427 = .ok (.aload_n 1, 1) := by decide +kernel
theorem dL_isRefused_1428 : decode cL_isRefused 1428 = .ok (.invokestatic 138, 3) := by decide +kernel
theorem dL_isRefused_1431 : decode cL_isRefused 1431 = .ok (.lload 10, 2) := by decide +kernel
theorem dL_isRefused_1433 : decode cL_isRefused 1433 = .ok (.lcmp, 1) := by decide +kernel
theorem dL_isRefused_1434 : decode cL_isRefused 1434 = .ok (.ifCond .ne 7, 3) := by decide +kernel
theorem dL_isRefused_1437 : decode cL_isRefused 1437 = .ok (.iconst 1, 1) := by decide +kernel
theorem dL_isRefused_1438 : decode cL_isRefused 1438 = .ok (.goto 4, 3) := by decide +kernel
theorem dL_isRefused_1441 : decode cL_isRefused 1441 = .ok (.iconst 0, 1) := by decide +kernel
theorem dL_isRefused_1442 : decode cL_isRefused 1442 = .ok (.ireturn, 1) := by decide +kernel
