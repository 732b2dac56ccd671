/-! the law's instructions -/
theorem dl_1234 : decode code 1234 = .ok (.aload_n 2, 1) := by decide +kernel
theorem dl_1235 : decode code 1235 = .ok (.aload_n 0, 1) := by decide +kernel
theorem dl_1236 : decode code 1236 = .ok (.iload_n 3, 1) := by decide +kernel
theorem dl_1237 : decode code 1237 = .ok (.iconst 1, 1) := by decide +kernel
theorem dl_1238 : decode code 1238 = .ok (.iadd, 1) := by decide +kernel
theorem dl_1239 : decode code 1239 = .ok (.iaload, 1) := by decide +kernel
theorem dl_1240 : decode code 1240 = .ok (.invokevirtual 153, 3) := by decide +kernel
theorem dl_1243 : decode code 1243 = .ok (.if_icmp .eq 152, 3) := by decide +kernel
theorem dl_1246 : decode code 1246 = .ok (.iconst 0, 1) := by decide +kernel
theorem dl_1247 : decode code 1247 = .ok (.ireturn, 1) := by decide +kernel
theorem dl_1248 : decode code 1248 = .ok (.aload_n 1, 1) := by decide +kernel
theorem dl_1249 : decode code 1249 = .ok (.aload_n 0, 1) := by decide +kernel
theorem dl_1250 : decode code 1250 = .ok (.iload_n 3, 1) := by decide +kernel
theorem dl_1251 : decode code 1251 = .ok (.iconst 1, 1) := by decide +kernel
theorem dl_1252 : decode code 1252 = .ok (.iadd, 1) := by decide +kernel
theorem dl_1253 : decode code 1253 = .ok (.iaload, 1) := by decide +kernel
theorem dl_1254 : decode code 1254 = .ok (.aload_n 0, 1) := by decide +kernel
theorem dl_1255 : decode code 1255 = .ok (.iload_n 3, 1) := by decide +kernel
theorem dl_1256 : decode code 1256 = .ok (.iconst 2, 1) := by decide +kernel
theorem dl_1257 : decode code 1257 = .ok (.iadd, 1) := by decide +kernel
theorem dl_1258 : decode code 1258 = .ok (.iaload, 1) := by decide +kernel
theorem dl_1259 : decode code 1259 = .ok (.invokevirtual 154, 3) := by decide +kernel
theorem dl_1262 : decode code 1262 = .ok (.aload_n 2, 1) := by decide +kernel
theorem dl_1263 : decode code 1263 = .ok (.aload_n 0, 1) := by decide +kernel
theorem dl_1264 : decode code 1264 = .ok (.iload_n 3, 1) := by decide +kernel
theorem dl_1265 : decode code 1265 = .ok (.iconst 1, 1) := by decide +kernel
theorem dl_1266 : decode code 1266 = .ok (.iadd, 1) := by decide +kernel
theorem dl_1267 : decode code 1267 = .ok (.iaload, 1) := by decide +kernel
theorem dl_1268 : decode code 1268 = .ok (.aload_n 0, 1) := by decide +kernel
theorem dl_1269 : decode code 1269 = .ok (.iload_n 3, 1) := by decide +kernel
theorem dl_1270 : decode code 1270 = .ok (.iconst 2, 1) := by decide +kernel
theorem dl_1271 : decode code 1271 = .ok (.iadd, 1) := by decide +kernel
theorem dl_1272 : decode code 1272 = .ok (.iaload, 1) := by decide +kernel
theorem dl_1273 : decode code 1273 = .ok (.invokevirtual 157, 3) := by decide +kernel
theorem dl_1276 : decode code 1276 = .ok (.if_icmp .eq 119, 3) := by decide +kernel
theorem dl_1279 : decode code 1279 = .ok (.iconst 0, 1) := by decide +kernel
theorem dl_1280 : decode code 1280 = .ok (.ireturn, 1) := by decide +kernel
theorem dl_1281 : decode code 1281 = .ok (.aload_n 1, 1) := by decide +kernel
theorem dl_1282 : decode code 1282 = .ok (.invokevirtual 158, 3) := by decide +kernel
theorem dl_1285 : decode code 1285 = .ok (.aload_n 2, 1) := by decide +kernel
theorem dl_1286 : decode code 1286 = .ok (.invokevirtual 161, 3) := by decide +kernel
theorem dl_1289 : decode code 1289 = .ok (.if_icmp .eq 106, 3) := by decide +kernel
theorem dl_1292 : decode code 1292 = .ok (.iconst 0, 1) := by decide +kernel
theorem dl_1293 : decode code 1293 = .ok (.ireturn, 1) := by decide +kernel
theorem dl_1294 : decode code 1294 = .ok (.aload_n 1, 1) := by decide +kernel
theorem dl_1295 : decode code 1295 = .ok (.invokevirtual 162, 3) := by decide +kernel
theorem dl_1298 : decode code 1298 = .ok (.aload_n 2, 1) := by decide +kernel
theorem dl_1299 : decode code 1299 = .ok (.invokevirtual 166, 3) := by decide +kernel
theorem dl_1302 : decode code 1302 = .ok (.lcmp, 1) := by decide +kernel
theorem dl_1303 : decode code 1303 = .ok (.ifCond .eq 92, 3) := by decide +kernel
theorem dl_1306 : decode code 1306 = .ok (.iconst 0, 1) := by decide +kernel
theorem dl_1307 : decode code 1307 = .ok (.ireturn, 1) := by decide +kernel
theorem dl_1308 : decode code 1308 = .ok (.aload_n 1, 1) := by decide +kernel
theorem dl_1309 : decode code 1309 = .ok (.invokevirtual 167, 3) := by decide +kernel
theorem dl_1312 : decode code 1312 = .ok (.aload_n 2, 1) := by decide +kernel
theorem dl_1313 : decode code 1313 = .ok (.invokevirtual 170, 3) := by decide +kernel
theorem dl_1316 : decode code 1316 = .ok (.lcmp, 1) := by decide +kernel
theorem dl_1317 : decode code 1317 = .ok (.ifCond .eq 78, 3) := by decide +kernel
theorem dl_1320 : decode code 1320 = .ok (.iconst 0, 1) := by decide +kernel
theorem dl_1321 : decode code 1321 = .ok (.ireturn, 1) := by decide +kernel
theorem dl_1322 : decode code 1322 = .ok (.aload_n 1, 1) := by decide +kernel
theorem dl_1323 : decode code 1323 = .ok (.aload_n 0, 1) := by decide +kernel
theorem dl_1324 : decode code 1324 = .ok (.iload_n 3, 1) := by decide +kernel
theorem dl_1325 : decode code 1325 = .ok (.iconst 1, 1) := by decide +kernel
theorem dl_1326 : decode code 1326 = .ok (.iadd, 1) := by decide +kernel
theorem dl_1327 : decode code 1327 = .ok (.iaload, 1) := by decide +kernel
theorem dl_1328 : decode code 1328 = .ok (.invokevirtual 171, 3) := by decide +kernel
theorem dl_1331 : decode code 1331 = .ok (.aload_n 2, 1) := by decide +kernel
theorem dl_1332 : decode code 1332 = .ok (.aload_n 0, 1) := by decide +kernel
theorem dl_1333 : decode code 1333 = .ok (.iload_n 3, 1) := by decide +kernel
theorem dl_1334 : decode code 1334 = .ok (.iconst 1, 1) := by decide +kernel
theorem dl_1335 : decode code 1335 = .ok (.iadd, 1) := by decide +kernel
theorem dl_1336 : decode code 1336 = .ok (.iaload, 1) := by decide +kernel
theorem dl_1337 : decode code 1337 = .ok (.invokevirtual 174, 3) := by decide +kernel
theorem dl_1340 : decode code 1340 = .ok (.if_icmp .eq 55, 3) := by decide +kernel
theorem dl_1343 : decode code 1343 = .ok (.iconst 0, 1) := by decide +kernel
theorem dl_1344 : decode code 1344 = .ok (.ireturn, 1) := by decide +kernel
theorem dl_1345 : decode code 1345 = .ok (.aload_n 1, 1) := by decide +kernel
theorem dl_1346 : decode code 1346 = .ok (.invokevirtual 175, 3) := by decide +kernel
theorem dl_1349 : decode code 1349 = .ok (.aload_n 2, 1) := by decide +kernel
theorem dl_1350 : decode code 1350 = .ok (.invokevirtual 178, 3) := by decide +kernel
theorem dl_1353 : decode code 1353 = .ok (.if_icmp .eq 42, 3) := by decide +kernel
theorem dl_1356 : decode code 1356 = .ok (.iconst 0, 1) := by decide +kernel
theorem dl_1357 : decode code 1357 = .ok (.ireturn, 1) := by decide +kernel
theorem dl_1358 : decode code 1358 = .ok (.aload_n 1, 1) := by decide +kernel
theorem dl_1359 : decode code 1359 = .ok (.aload_n 0, 1) := by decide +kernel
theorem dl_1360 : decode code 1360 = .ok (.iload_n 3, 1) := by decide +kernel
theorem dl_1361 : decode code 1361 = .ok (.iconst 1, 1) := by decide +kernel
theorem dl_1362 : decode code 1362 = .ok (.iadd, 1) := by decide +kernel
theorem dl_1363 : decode code 1363 = .ok (.iaload, 1) := by decide +kernel
theorem dl_1364 : decode code 1364 = .ok (.invokevirtual 179, 3) := by decide +kernel
theorem dl_1367 : decode code 1367 = .ok (.aload_n 2, 1) := by decide +kernel
theorem dl_1368 : decode code 1368 = .ok (.aload_n 0, 1) := by decide +kernel
theorem dl_1369 : decode code 1369 = .ok (.iload_n 3, 1) := by decide +kernel
theorem dl_1370 : decode code 1370 = .ok (.iconst 1, 1) := by decide +kernel
theorem dl_1371 : decode code 1371 = .ok (.iadd, 1) := by decide +kernel
theorem dl_1372 : decode code 1372 = .ok (.iaload, 1) := by decide +kernel
theorem dl_1373 : decode code 1373 = .ok (.invokevirtual 182, 3) := by decide +kernel
theorem dl_1376 : decode code 1376 = .ok (.if_icmp .eq 19, 3) := by decide +kernel
theorem dl_1379 : decode code 1379 = .ok (.iconst 0, 1) := by decide +kernel
theorem dl_1380 : decode code 1380 = .ok (.ireturn, 1) := by decide +kernel
theorem dl_1381 : decode code 1381 = .ok (.aload_n 1, 1) := by decide +kernel
theorem dl_1382 : decode code 1382 = .ok (.invokevirtual 183, 3) := by decide +kernel
theorem dl_1385 : decode code 1385 = .ok (.aload_n 2, 1) := by decide +kernel
theorem dl_1386 : decode code 1386 = .ok (.invokevirtual 186, 3) := by decide +kernel
theorem dl_1389 : decode code 1389 = .ok (.lcmp, 1) := by decide +kernel
theorem dl_1390 : decode code 1390 = .ok (.ifCond .eq 5, 3) := by decide +kernel
theorem dl_1393 : decode code 1393 = .ok (.iconst 0, 1) := by decide +kernel
theorem dl_1394 : decode code 1394 = .ok (.ireturn, 1) := by decide +kernel
theorem dl_1395 : decode code 1395 = .ok (.iinc 3 6, 3) := by decide +kernel
theorem dl_1398 : decode code 1398 = .ok (.goto (-1380), 3) := by decide +kernel
theorem dl_1401 : decode code 1401 = .ok (.iconst 1, 1) := by decide +kernel
theorem dl_1402 : decode code 1402 = .ok (.ireturn, 1) := by decide +kernel
