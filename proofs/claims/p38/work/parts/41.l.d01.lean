theorem dq_41_l_900 : (decode cL_law 1236 = .ok (.iadd, 1)) ∧ (decode cL_law 1237 = .ok (.iaload, 1)) ∧ (decode cL_law 1238 = .ok (.aload_n 0, 1)) ∧ (decode cL_law 1239 = .ok (.iload_n 3, 1)) ∧ (decode cL_law 1240 = .ok (.iconst 3, 1)) ∧ (decode cL_law 1241 = .ok (.iadd, 1)) ∧ (decode cL_law 1242 = .ok (.iaload, 1)) ∧ (decode cL_law 1243 = .ok (.aload_n 0, 1)) ∧ (decode cL_law 1244 = .ok (.iload_n 3, 1)) ∧ (decode cL_law 1245 = .ok (.iconst 4, 1)) := by decide +kernel
theorem dL_law_1236 : decode cL_law 1236 = .ok (.iadd, 1) := dq_41_l_900.1
theorem dL_law_1237 : decode cL_law 1237 = .ok (.iaload, 1) := dq_41_l_900.2.1
theorem dL_law_1238 : decode cL_law 1238 = .ok (.aload_n 0, 1) := dq_41_l_900.2.2.1
theorem dL_law_1239 : decode cL_law 1239 = .ok (.iload_n 3, 1) := dq_41_l_900.2.2.2.1
theorem dL_law_1240 : decode cL_law 1240 = .ok (.iconst 3, 1) := dq_41_l_900.2.2.2.2.1
theorem dL_law_1241 : decode cL_law 1241 = .ok (.iadd, 1) := dq_41_l_900.2.2.2.2.2.1
theorem dL_law_1242 : decode cL_law 1242 = .ok (.iaload, 1) := dq_41_l_900.2.2.2.2.2.2.1
theorem dL_law_1243 : decode cL_law 1243 = .ok (.aload_n 0, 1) := dq_41_l_900.2.2.2.2.2.2.2.1
theorem dL_law_1244 : decode cL_law 1244 = .ok (.iload_n 3, 1) := dq_41_l_900.2.2.2.2.2.2.2.2.1
theorem dL_law_1245 : decode cL_law 1245 = .ok (.iconst 4, 1) := dq_41_l_900.2.2.2.2.2.2.2.2.2
theorem dq_41_l_910 : (decode cL_law 1246 = .ok (.iadd, 1)) ∧ (decode cL_law 1247 = .ok (.iaload, 1)) ∧ (decode cL_law 1248 = .ok (.aload_n 0, 1)) ∧ (decode cL_law 1249 = .ok (.iload_n 3, 1)) ∧ (decode cL_law 1250 = .ok (.iconst 5, 1)) ∧ (decode cL_law 1251 = .ok (.iadd, 1)) ∧ (decode cL_law 1252 = .ok (.iaload, 1)) ∧ (decode cL_law 1253 = .ok (.invokevirtual 115, 3)) ∧ (decode cL_law 1256 = .ok (.pop, 1)) ∧ (decode cL_law 1257 = .ok (.aload_n 2, 1)) := by decide +kernel
theorem dL_law_1246 : decode cL_law 1246 = .ok (.iadd, 1) := dq_41_l_910.1
theorem dL_law_1247 : decode cL_law 1247 = .ok (.iaload, 1) := dq_41_l_910.2.1
theorem dL_law_1248 : decode cL_law 1248 = .ok (.aload_n 0, 1) := dq_41_l_910.2.2.1
theorem dL_law_1249 : decode cL_law 1249 = .ok (.iload_n 3, 1) := dq_41_l_910.2.2.2.1
theorem dL_law_1250 : decode cL_law 1250 = .ok (.iconst 5, 1) := dq_41_l_910.2.2.2.2.1
theorem dL_law_1251 : decode cL_law 1251 = .ok (.iadd, 1) := dq_41_l_910.2.2.2.2.2.1
theorem dL_law_1252 : decode cL_law 1252 = .ok (.iaload, 1) := dq_41_l_910.2.2.2.2.2.2.1
theorem dL_law_1253 : decode cL_law 1253 = .ok (.invokevirtual 115, 3) := dq_41_l_910.2.2.2.2.2.2.2.1
theorem dL_law_1256 : decode cL_law 1256 = .ok (.pop, 1) := dq_41_l_910.2.2.2.2.2.2.2.2.1
theorem dL_law_1257 : decode cL_law 1257 = .ok (.aload_n 2, 1) := dq_41_l_910.2.2.2.2.2.2.2.2.2
theorem dq_41_l_920 : (decode cL_law 1258 = .ok (.aload_n 0, 1)) ∧ (decode cL_law 1259 = .ok (.iload_n 3, 1)) ∧ (decode cL_law 1260 = .ok (.iconst 1, 1)) ∧ (decode cL_law 1261 = .ok (.iadd, 1)) ∧ (decode cL_law 1262 = .ok (.iaload, 1)) ∧ (decode cL_law 1263 = .ok (.aload_n 0, 1)) ∧ (decode cL_law 1264 = .ok (.iload_n 3, 1)) ∧ (decode cL_law 1265 = .ok (.iconst 2, 1)) ∧ (decode cL_law 1266 = .ok (.iadd, 1)) ∧ (decode cL_law 1267 = .ok (.iaload, 1)) := by decide +kernel
theorem dL_law_1258 : decode cL_law 1258 = .ok (.aload_n 0, 1) := dq_41_l_920.1
theorem dL_law_1259 : decode cL_law 1259 = .ok (.iload_n 3, 1) := dq_41_l_920.2.1
theorem dL_law_1260 : decode cL_law 1260 = .ok (.iconst 1, 1) := dq_41_l_920.2.2.1
theorem dL_law_1261 : decode cL_law 1261 = .ok (.iadd, 1) := dq_41_l_920.2.2.2.1
theorem dL_law_1262 : decode cL_law 1262 = .ok (.iaload, 1) := dq_41_l_920.2.2.2.2.1
theorem dL_law_1263 : decode cL_law 1263 = .ok (.aload_n 0, 1) := dq_41_l_920.2.2.2.2.2.1
theorem dL_law_1264 : decode cL_law 1264 = .ok (.iload_n 3, 1) := dq_41_l_920.2.2.2.2.2.2.1
theorem dL_law_1265 : decode cL_law 1265 = .ok (.iconst 2, 1) := dq_41_l_920.2.2.2.2.2.2.2.1
theorem dL_law_1266 : decode cL_law 1266 = .ok (.iadd, 1) := dq_41_l_920.2.2.2.2.2.2.2.2.1
theorem dL_law_1267 : decode cL_law 1267 = .ok (.iaload, 1) := dq_41_l_920.2.2.2.2.2.2.2.2.2
theorem dq_41_l_930 : (decode cL_law 1268 = .ok (.aload_n 0, 1)) ∧ (decode cL_law 1269 = .ok (.iload_n 3, 1)) ∧ (decode cL_law 1270 = .ok (.iconst 3, 1)) ∧ (decode cL_law 1271 = .ok (.iadd, 1)) ∧ (decode cL_law 1272 = .ok (.iaload, 1)) ∧ (decode cL_law 1273 = .ok (.aload_n 0, 1)) ∧ (decode cL_law 1274 = .ok (.iload_n 3, 1)) ∧ (decode cL_law 1275 = .ok (.iconst 4, 1)) ∧ (decode cL_law 1276 = .ok (.iadd, 1)) ∧ (decode cL_law 1277 = .ok (.iaload, 1)) := by decide +kernel
theorem dL_law_1268 : decode cL_law 1268 = .ok (.aload_n 0, 1) := dq_41_l_930.1
theorem dL_law_1269 : decode cL_law 1269 = .ok (.iload_n 3, 1) := dq_41_l_930.2.1
theorem dL_law_1270 : decode cL_law 1270 = .ok (.iconst 3, 1) := dq_41_l_930.2.2.1
theorem dL_law_1271 : decode cL_law 1271 = .ok (.iadd, 1) := dq_41_l_930.2.2.2.1
theorem dL_law_1272 : decode cL_law 1272 = .ok (.iaload, 1) := dq_41_l_930.2.2.2.2.1
theorem dL_law_1273 : decode cL_law 1273 = .ok (.aload_n 0, 1) := dq_41_l_930.2.2.2.2.2.1
theorem dL_law_1274 : decode cL_law 1274 = .ok (.iload_n 3, 1) := dq_41_l_930.2.2.2.2.2.2.1
theorem dL_law_1275 : decode cL_law 1275 = .ok (.iconst 4, 1) := dq_41_l_930.2.2.2.2.2.2.2.1
theorem dL_law_1276 : decode cL_law 1276 = .ok (.iadd, 1) := dq_41_l_930.2.2.2.2.2.2.2.2.1
theorem dL_law_1277 : decode cL_law 1277 = .ok (.iaload, 1) := dq_41_l_930.2.2.2.2.2.2.2.2.2
theorem dq_41_l_940 : (decode cL_law 1278 = .ok (.aload_n 0, 1)) ∧ (decode cL_law 1279 = .ok (.iload_n 3, 1)) ∧ (decode cL_law 1280 = .ok (.iconst 5, 1)) ∧ (decode cL_law 1281 = .ok (.iadd, 1)) ∧ (decode cL_law 1282 = .ok (.iaload, 1)) ∧ (decode cL_law 1283 = .ok (.invokevirtual 118, 3)) ∧ (decode cL_law 1286 = .ok (.pop, 1)) ∧ (decode cL_law 1287 = .ok (.goto 591, 3)) ∧ (decode cL_law 1290 = .ok (.aload_n 1, 1)) ∧ (decode cL_law 1291 = .ok (.aload_n 0, 1)) := by decide +kernel
theorem dL_law_1278 : decode cL_law 1278 = .ok (.aload_n 0, 1) := dq_41_l_940.1
theorem dL_law_1279 : decode cL_law 1279 = .ok (.iload_n 3, 1) := dq_41_l_940.2.1
theorem dL_law_1280 : decode cL_law 1280 = .ok (.iconst 5, 1) := dq_41_l_940.2.2.1
theorem dL_law_1281 : decode cL_law 1281 = .ok (.iadd, 1) := dq_41_l_940.2.2.2.1
theorem dL_law_1282 : decode cL_law 1282 = .ok (.iaload, 1) := dq_41_l_940.2.2.2.2.1
theorem dL_law_1283 : decode cL_law 1283 = .ok (.invokevirtual 118, 3) := dq_41_l_940.2.2.2.2.2.1
theorem dL_law_1286 : decode cL_law 1286 = .ok (.pop, 1) := dq_41_l_940.2.2.2.2.2.2.1
theorem dL_law_1287 : decode cL_law 1287 = .ok (.goto 591, 3) := dq_41_l_940.2.2.2.2.2.2.2.1
theorem dL_law_1290 : decode cL_law 1290 = .ok (.aload_n 1, 1) := dq_41_l_940.2.2.2.2.2.2.2.2.1
theorem dL_law_1291 : decode cL_law 1291 = .ok (.aload_n 0, 1) := dq_41_l_940.2.2.2.2.2.2.2.2.2
theorem dq_41_l_950 : (decode cL_law 1292 = .ok (.iload_n 3, 1)) ∧ (decode cL_law 1293 = .ok (.iconst 1, 1)) ∧ (decode cL_law 1294 = .ok (.iadd, 1)) ∧ (decode cL_law 1295 = .ok (.iaload, 1)) ∧ (decode cL_law 1296 = .ok (.aload_n 0, 1)) ∧ (decode cL_law 1297 = .ok (.iload_n 3, 1)) ∧ (decode cL_law 1298 = .ok (.iconst 2, 1)) ∧ (decode cL_law 1299 = .ok (.iadd, 1)) ∧ (decode cL_law 1300 = .ok (.iaload, 1)) ∧ (decode cL_law 1301 = .ok (.invokevirtual 119, 3)) := by decide +kernel
theorem dL_law_1292 : decode cL_law 1292 = .ok (.iload_n 3, 1) := dq_41_l_950.1
theorem dL_law_1293 : decode cL_law 1293 = .ok (.iconst 1, 1) := dq_41_l_950.2.1
theorem dL_law_1294 : decode cL_law 1294 = .ok (.iadd, 1) := dq_41_l_950.2.2.1
theorem dL_law_1295 : decode cL_law 1295 = .ok (.iaload, 1) := dq_41_l_950.2.2.2.1
theorem dL_law_1296 : decode cL_law 1296 = .ok (.aload_n 0, 1) := dq_41_l_950.2.2.2.2.1
theorem dL_law_1297 : decode cL_law 1297 = .ok (.iload_n 3, 1) := dq_41_l_950.2.2.2.2.2.1
theorem dL_law_1298 : decode cL_law 1298 = .ok (.iconst 2, 1) := dq_41_l_950.2.2.2.2.2.2.1
theorem dL_law_1299 : decode cL_law 1299 = .ok (.iadd, 1) := dq_41_l_950.2.2.2.2.2.2.2.1
theorem dL_law_1300 : decode cL_law 1300 = .ok (.iaload, 1) := dq_41_l_950.2.2.2.2.2.2.2.2.1
theorem dL_law_1301 : decode cL_law 1301 = .ok (.invokevirtual 119, 3) := dq_41_l_950.2.2.2.2.2.2.2.2.2
theorem dq_41_l_960 : (decode cL_law 1304 = .ok (.pop2, 1)) ∧ (decode cL_law 1305 = .ok (.aload_n 2, 1)) ∧ (decode cL_law 1306 = .ok (.aload_n 0, 1)) ∧ (decode cL_law 1307 = .ok (.iload_n 3, 1)) ∧ (decode cL_law 1308 = .ok (.iconst 1, 1)) ∧ (decode cL_law 1309 = .ok (.iadd, 1)) ∧ (decode cL_law 1310 = .ok (.iaload, 1)) ∧ (decode cL_law 1311 = .ok (.aload_n 0, 1)) ∧ (decode cL_law 1312 = .ok (.iload_n 3, 1)) ∧ (decode cL_law 1313 = .ok (.iconst 2, 1)) := by decide +kernel
theorem dL_law_1304 : decode cL_law 1304 = .ok (.pop2, 1) := dq_41_l_960.1
theorem dL_law_1305 : decode cL_law 1305 = .ok (.aload_n 2, 1) := dq_41_l_960.2.1
theorem dL_law_1306 : decode cL_law 1306 = .ok (.aload_n 0, 1) := dq_41_l_960.2.2.1
theorem dL_law_1307 : decode cL_law 1307 = .ok (.iload_n 3, 1) := dq_41_l_960.2.2.2.1
theorem dL_law_1308 : decode cL_law 1308 = .ok (.iconst 1, 1) := dq_41_l_960.2.2.2.2.1
theorem dL_law_1309 : decode cL_law 1309 = .ok (.iadd, 1) := dq_41_l_960.2.2.2.2.2.1
theorem dL_law_1310 : decode cL_law 1310 = .ok (.iaload, 1) := dq_41_l_960.2.2.2.2.2.2.1
theorem dL_law_1311 : decode cL_law 1311 = .ok (.aload_n 0, 1) := dq_41_l_960.2.2.2.2.2.2.2.1
theorem dL_law_1312 : decode cL_law 1312 = .ok (.iload_n 3, 1) := dq_41_l_960.2.2.2.2.2.2.2.2.1
theorem dL_law_1313 : decode cL_law 1313 = .ok (.iconst 2, 1) := dq_41_l_960.2.2.2.2.2.2.2.2.2
theorem dq_41_l_970 : (decode cL_law 1314 = .ok (.iadd, 1)) ∧ (decode cL_law 1315 = .ok (.iaload, 1)) ∧ (decode cL_law 1316 = .ok (.invokevirtual 123, 3)) ∧ (decode cL_law 1319 = .ok (.pop2, 1)) ∧ (decode cL_law 1320 = .ok (.goto 558, 3)) ∧ (decode cL_law 1323 = .ok (.aload_n 1, 1)) ∧ (decode cL_law 1324 = .ok (.aload_n 0, 1)) ∧ (decode cL_law 1325 = .ok (.iload_n 3, 1)) ∧ (decode cL_law 1326 = .ok (.iconst 1, 1)) ∧ (decode cL_law 1327 = .ok (.iadd, 1)) := by decide +kernel
theorem dL_law_1314 : decode cL_law 1314 = .ok (.iadd, 1) := dq_41_l_970.1
theorem dL_law_1315 : decode cL_law 1315 = .ok (.iaload, 1) := dq_41_l_970.2.1
theorem dL_law_1316 : decode cL_law 1316 = .ok (.invokevirtual 123, 3) := dq_41_l_970.2.2.1
theorem dL_law_1319 : decode cL_law 1319 = .ok (.pop2, 1) := dq_41_l_970.2.2.2.1
theorem dL_law_1320 : decode cL_law 1320 = .ok (.goto 558, 3) := dq_41_l_970.2.2.2.2.1
theorem dL_law_1323 : decode cL_law 1323 = .ok (.aload_n 1, 1) := dq_41_l_970.2.2.2.2.2.1
theorem dL_law_1324 : decode cL_law 1324 = .ok (.aload_n 0, 1) := dq_41_l_970.2.2.2.2.2.2.1
theorem dL_law_1325 : decode cL_law 1325 = .ok (.iload_n 3, 1) := dq_41_l_970.2.2.2.2.2.2.2.1
theorem dL_law_1326 : decode cL_law 1326 = .ok (.iconst 1, 1) := dq_41_l_970.2.2.2.2.2.2.2.2.1
theorem dL_law_1327 : decode cL_law 1327 = .ok (.iadd, 1) := dq_41_l_970.2.2.2.2.2.2.2.2.2
theorem dq_41_l_980 : (decode cL_law 1328 = .ok (.iaload, 1)) ∧ (decode cL_law 1329 = .ok (.aload_n 0, 1)) ∧ (decode cL_law 1330 = .ok (.iload_n 3, 1)) ∧ (decode cL_law 1331 = .ok (.iconst 2, 1)) ∧ (decode cL_law 1332 = .ok (.iadd, 1)) ∧ (decode cL_law 1333 = .ok (.iaload, 1)) ∧ (decode cL_law 1334 = .ok (.invokevirtual 124, 3)) ∧ (decode cL_law 1337 = .ok (.pop, 1)) ∧ (decode cL_law 1338 = .ok (.aload_n 2, 1)) ∧ (decode cL_law 1339 = .ok (.aload_n 0, 1)) := by decide +kernel
theorem dL_law_1328 : decode cL_law 1328 = .ok (.iaload, 1) := dq_41_l_980.1
theorem dL_law_1329 : decode cL_law 1329 = .ok (.aload_n 0, 1) := dq_41_l_980.2.1
theorem dL_law_1330 : decode cL_law 1330 = .ok (.iload_n 3, 1) := dq_41_l_980.2.2.1
theorem dL_law_1331 : decode cL_law 1331 = .ok (.iconst 2, 1) := dq_41_l_980.2.2.2.1
theorem dL_law_1332 : decode cL_law 1332 = .ok (.iadd, 1) := dq_41_l_980.2.2.2.2.1
theorem dL_law_1333 : decode cL_law 1333 = .ok (.iaload, 1) := dq_41_l_980.2.2.2.2.2.1
theorem dL_law_1334 : decode cL_law 1334 = .ok (.invokevirtual 124, 3) := dq_41_l_980.2.2.2.2.2.2.1
theorem dL_law_1337 : decode cL_law 1337 = .ok (.pop, 1) := dq_41_l_980.2.2.2.2.2.2.2.1
theorem dL_law_1338 : decode cL_law 1338 = .ok (.aload_n 2, 1) := dq_41_l_980.2.2.2.2.2.2.2.2.1
theorem dL_law_1339 : decode cL_law 1339 = .ok (.aload_n 0, 1) := dq_41_l_980.2.2.2.2.2.2.2.2.2
theorem dq_41_l_990 : (decode cL_law 1340 = .ok (.iload_n 3, 1)) ∧ (decode cL_law 1341 = .ok (.iconst 1, 1)) ∧ (decode cL_law 1342 = .ok (.iadd, 1)) ∧ (decode cL_law 1343 = .ok (.iaload, 1)) ∧ (decode cL_law 1344 = .ok (.aload_n 0, 1)) ∧ (decode cL_law 1345 = .ok (.iload_n 3, 1)) ∧ (decode cL_law 1346 = .ok (.iconst 2, 1)) ∧ (decode cL_law 1347 = .ok (.iadd, 1)) ∧ (decode cL_law 1348 = .ok (.iaload, 1)) ∧ (decode cL_law 1349 = .ok (.invokevirtual 127, 3)) := by decide +kernel
theorem dL_law_1340 : decode cL_law 1340 = .ok (.iload_n 3, 1) := dq_41_l_990.1
theorem dL_law_1341 : decode cL_law 1341 = .ok (.iconst 1, 1) := dq_41_l_990.2.1
theorem dL_law_1342 : decode cL_law 1342 = .ok (.iadd, 1) := dq_41_l_990.2.2.1
theorem dL_law_1343 : decode cL_law 1343 = .ok (.iaload, 1) := dq_41_l_990.2.2.2.1
theorem dL_law_1344 : decode cL_law 1344 = .ok (.aload_n 0, 1) := dq_41_l_990.2.2.2.2.1
theorem dL_law_1345 : decode cL_law 1345 = .ok (.iload_n 3, 1) := dq_41_l_990.2.2.2.2.2.1
theorem dL_law_1346 : decode cL_law 1346 = .ok (.iconst 2, 1) := dq_41_l_990.2.2.2.2.2.2.1
theorem dL_law_1347 : decode cL_law 1347 = .ok (.iadd, 1) := dq_41_l_990.2.2.2.2.2.2.2.1
theorem dL_law_1348 : decode cL_law 1348 = .ok (.iaload, 1) := dq_41_l_990.2.2.2.2.2.2.2.2.1
theorem dL_law_1349 : decode cL_law 1349 = .ok (.invokevirtual 127, 3) := dq_41_l_990.2.2.2.2.2.2.2.2.2
theorem dq_41_l_1000 : (decode cL_law 1352 = .ok (.pop, 1)) ∧ (decode cL_law 1353 = .ok (.goto 525, 3)) ∧ (decode cL_law 1356 = .ok (.aload_n 1, 1)) ∧ (decode cL_law 1357 = .ok (.aload_n 0, 1)) ∧ (decode cL_law 1358 = .ok (.iload_n 3, 1)) ∧ (decode cL_law 1359 = .ok (.iconst 1, 1)) ∧ (decode cL_law 1360 = .ok (.iadd, 1)) ∧ (decode cL_law 1361 = .ok (.iaload, 1)) ∧ (decode cL_law 1362 = .ok (.aload_n 0, 1)) ∧ (decode cL_law 1363 = .ok (.iload_n 3, 1)) := by decide +kernel
theorem dL_law_1352 : decode cL_law 1352 = .ok (.pop, 1) := dq_41_l_1000.1
theorem dL_law_1353 : decode cL_law 1353 = .ok (.goto 525, 3) := dq_41_l_1000.2.1
theorem dL_law_1356 : decode cL_law 1356 = .ok (.aload_n 1, 1) := dq_41_l_1000.2.2.1
theorem dL_law_1357 : decode cL_law 1357 = .ok (.aload_n 0, 1) := dq_41_l_1000.2.2.2.1
theorem dL_law_1358 : decode cL_law 1358 = .ok (.iload_n 3, 1) := dq_41_l_1000.2.2.2.2.1
theorem dL_law_1359 : decode cL_law 1359 = .ok (.iconst 1, 1) := dq_41_l_1000.2.2.2.2.2.1
theorem dL_law_1360 : decode cL_law 1360 = .ok (.iadd, 1) := dq_41_l_1000.2.2.2.2.2.2.1
theorem dL_law_1361 : decode cL_law 1361 = .ok (.iaload, 1) := dq_41_l_1000.2.2.2.2.2.2.2.1
theorem dL_law_1362 : decode cL_law 1362 = .ok (.aload_n 0, 1) := dq_41_l_1000.2.2.2.2.2.2.2.2.1
theorem dL_law_1363 : decode cL_law 1363 = .ok (.iload_n 3, 1) := dq_41_l_1000.2.2.2.2.2.2.2.2.2
theorem dq_41_l_1010 : (decode cL_law 1364 = .ok (.iconst 2, 1)) ∧ (decode cL_law 1365 = .ok (.iadd, 1)) ∧ (decode cL_law 1366 = .ok (.iaload, 1)) ∧ (decode cL_law 1367 = .ok (.aload_n 0, 1)) ∧ (decode cL_law 1368 = .ok (.iload_n 3, 1)) ∧ (decode cL_law 1369 = .ok (.iconst 3, 1)) ∧ (decode cL_law 1370 = .ok (.iadd, 1)) ∧ (decode cL_law 1371 = .ok (.iaload, 1)) ∧ (decode cL_law 1372 = .ok (.invokevirtual 128, 3)) ∧ (decode cL_law 1375 = .ok (.pop2, 1)) := by decide +kernel
theorem dL_law_1364 : decode cL_law 1364 = .ok (.iconst 2, 1) := dq_41_l_1010.1
theorem dL_law_1365 : decode cL_law 1365 = .ok (.iadd, 1) := dq_41_l_1010.2.1
theorem dL_law_1366 : decode cL_law 1366 = .ok (.iaload, 1) := dq_41_l_1010.2.2.1
theorem dL_law_1367 : decode cL_law 1367 = .ok (.aload_n 0, 1) := dq_41_l_1010.2.2.2.1
theorem dL_law_1368 : decode cL_law 1368 = .ok (.iload_n 3, 1) := dq_41_l_1010.2.2.2.2.1
theorem dL_law_1369 : decode cL_law 1369 = .ok (.iconst 3, 1) := dq_41_l_1010.2.2.2.2.2.1
theorem dL_law_1370 : decode cL_law 1370 = .ok (.iadd, 1) := dq_41_l_1010.2.2.2.2.2.2.1
theorem dL_law_1371 : decode cL_law 1371 = .ok (.iaload, 1) := dq_41_l_1010.2.2.2.2.2.2.2.1
theorem dL_law_1372 : decode cL_law 1372 = .ok (.invokevirtual 128, 3) := dq_41_l_1010.2.2.2.2.2.2.2.2.1
theorem dL_law_1375 : decode cL_law 1375 = .ok (.pop2, 1) := dq_41_l_1010.2.2.2.2.2.2.2.2.2
theorem dq_41_l_1020 : (decode cL_law 1376 = .ok (.aload_n 2, 1)) ∧ (decode cL_law 1377 = .ok (.aload_n 0, 1)) ∧ (decode cL_law 1378 = .ok (.iload_n 3, 1)) ∧ (decode cL_law 1379 = .ok (.iconst 1, 1)) ∧ (decode cL_law 1380 = .ok (.iadd, 1)) ∧ (decode cL_law 1381 = .ok (.iaload, 1)) ∧ (decode cL_law 1382 = .ok (.aload_n 0, 1)) ∧ (decode cL_law 1383 = .ok (.iload_n 3, 1)) ∧ (decode cL_law 1384 = .ok (.iconst 2, 1)) ∧ (decode cL_law 1385 = .ok (.iadd, 1)) := by decide +kernel
theorem dL_law_1376 : decode cL_law 1376 = .ok (.aload_n 2, 1) := dq_41_l_1020.1
theorem dL_law_1377 : decode cL_law 1377 = .ok (.aload_n 0, 1) := dq_41_l_1020.2.1
theorem dL_law_1378 : decode cL_law 1378 = .ok (.iload_n 3, 1) := dq_41_l_1020.2.2.1
theorem dL_law_1379 : decode cL_law 1379 = .ok (.iconst 1, 1) := dq_41_l_1020.2.2.2.1
theorem dL_law_1380 : decode cL_law 1380 = .ok (.iadd, 1) := dq_41_l_1020.2.2.2.2.1
theorem dL_law_1381 : decode cL_law 1381 = .ok (.iaload, 1) := dq_41_l_1020.2.2.2.2.2.1
theorem dL_law_1382 : decode cL_law 1382 = .ok (.aload_n 0, 1) := dq_41_l_1020.2.2.2.2.2.2.1
theorem dL_law_1383 : decode cL_law 1383 = .ok (.iload_n 3, 1) := dq_41_l_1020.2.2.2.2.2.2.2.1
theorem dL_law_1384 : decode cL_law 1384 = .ok (.iconst 2, 1) := dq_41_l_1020.2.2.2.2.2.2.2.2.1
theorem dL_law_1385 : decode cL_law 1385 = .ok (.iadd, 1) := dq_41_l_1020.2.2.2.2.2.2.2.2.2
theorem dq_41_l_1030 : (decode cL_law 1386 = .ok (.iaload, 1)) ∧ (decode cL_law 1387 = .ok (.aload_n 0, 1)) ∧ (decode cL_law 1388 = .ok (.iload_n 3, 1)) ∧ (decode cL_law 1389 = .ok (.iconst 3, 1)) ∧ (decode cL_law 1390 = .ok (.iadd, 1)) ∧ (decode cL_law 1391 = .ok (.iaload, 1)) ∧ (decode cL_law 1392 = .ok (.invokevirtual 132, 3)) ∧ (decode cL_law 1395 = .ok (.pop2, 1)) ∧ (decode cL_law 1396 = .ok (.goto 482, 3)) ∧ (decode cL_law 1399 = .ok (.aload_n 1, 1)) := by decide +kernel
theorem dL_law_1386 : decode cL_law 1386 = .ok (.iaload, 1) := dq_41_l_1030.1
theorem dL_law_1387 : decode cL_law 1387 = .ok (.aload_n 0, 1) := dq_41_l_1030.2.1
theorem dL_law_1388 : decode cL_law 1388 = .ok (.iload_n 3, 1) := dq_41_l_1030.2.2.1
theorem dL_law_1389 : decode cL_law 1389 = .ok (.iconst 3, 1) := dq_41_l_1030.2.2.2.1
theorem dL_law_1390 : decode cL_law 1390 = .ok (.iadd, 1) := dq_41_l_1030.2.2.2.2.1
theorem dL_law_1391 : decode cL_law 1391 = .ok (.iaload, 1) := dq_41_l_1030.2.2.2.2.2.1
theorem dL_law_1392 : decode cL_law 1392 = .ok (.invokevirtual 132, 3) := dq_41_l_1030.2.2.2.2.2.2.1
theorem dL_law_1395 : decode cL_law 1395 = .ok (.pop2, 1) := dq_41_l_1030.2.2.2.2.2.2.2.1
theorem dL_law_1396 : decode cL_law 1396 = .ok (.goto 482, 3) := dq_41_l_1030.2.2.2.2.2.2.2.2.1
theorem dL_law_1399 : decode cL_law 1399 = .ok (.aload_n 1, 1) := dq_41_l_1030.2.2.2.2.2.2.2.2.2
theorem dq_41_l_1040 : (decode cL_law 1400 = .ok (.aload_n 0, 1)) ∧ (decode cL_law 1401 = .ok (.iload_n 3, 1)) ∧ (decode cL_law 1402 = .ok (.iconst 1, 1)) ∧ (decode cL_law 1403 = .ok (.iadd, 1)) ∧ (decode cL_law 1404 = .ok (.iaload, 1)) ∧ (decode cL_law 1405 = .ok (.aload_n 0, 1)) ∧ (decode cL_law 1406 = .ok (.iload_n 3, 1)) ∧ (decode cL_law 1407 = .ok (.iconst 2, 1)) ∧ (decode cL_law 1408 = .ok (.iadd, 1)) ∧ (decode cL_law 1409 = .ok (.iaload, 1)) := by decide +kernel
theorem dL_law_1400 : decode cL_law 1400 = .ok (.aload_n 0, 1) := dq_41_l_1040.1
theorem dL_law_1401 : decode cL_law 1401 = .ok (.iload_n 3, 1) := dq_41_l_1040.2.1
theorem dL_law_1402 : decode cL_law 1402 = .ok (.iconst 1, 1) := dq_41_l_1040.2.2.1
theorem dL_law_1403 : decode cL_law 1403 = .ok (.iadd, 1) := dq_41_l_1040.2.2.2.1
theorem dL_law_1404 : decode cL_law 1404 = .ok (.iaload, 1) := dq_41_l_1040.2.2.2.2.1
theorem dL_law_1405 : decode cL_law 1405 = .ok (.aload_n 0, 1) := dq_41_l_1040.2.2.2.2.2.1
theorem dL_law_1406 : decode cL_law 1406 = .ok (.iload_n 3, 1) := dq_41_l_1040.2.2.2.2.2.2.1
theorem dL_law_1407 : decode cL_law 1407 = .ok (.iconst 2, 1) := dq_41_l_1040.2.2.2.2.2.2.2.1
theorem dL_law_1408 : decode cL_law 1408 = .ok (.iadd, 1) := dq_41_l_1040.2.2.2.2.2.2.2.2.1
theorem dL_law_1409 : decode cL_law 1409 = .ok (.iaload, 1) := dq_41_l_1040.2.2.2.2.2.2.2.2.2
theorem dq_41_l_1050 : (decode cL_law 1410 = .ok (.aload_n 0, 1)) ∧ (decode cL_law 1411 = .ok (.iload_n 3, 1)) ∧ (decode cL_law 1412 = .ok (.iconst 3, 1)) ∧ (decode cL_law 1413 = .ok (.iadd, 1)) ∧ (decode cL_law 1414 = .ok (.iaload, 1)) ∧ (decode cL_law 1415 = .ok (.invokevirtual 133, 3)) ∧ (decode cL_law 1418 = .ok (.pop, 1)) ∧ (decode cL_law 1419 = .ok (.aload_n 2, 1)) ∧ (decode cL_law 1420 = .ok (.aload_n 0, 1)) ∧ (decode cL_law 1421 = .ok (.iload_n 3, 1)) := by decide +kernel
theorem dL_law_1410 : decode cL_law 1410 = .ok (.aload_n 0, 1) := dq_41_l_1050.1
theorem dL_law_1411 : decode cL_law 1411 = .ok (.iload_n 3, 1) := dq_41_l_1050.2.1
theorem dL_law_1412 : decode cL_law 1412 = .ok (.iconst 3, 1) := dq_41_l_1050.2.2.1
theorem dL_law_1413 : decode cL_law 1413 = .ok (.iadd, 1) := dq_41_l_1050.2.2.2.1
theorem dL_law_1414 : decode cL_law 1414 = .ok (.iaload, 1) := dq_41_l_1050.2.2.2.2.1
theorem dL_law_1415 : decode cL_law 1415 = .ok (.invokevirtual 133, 3) := dq_41_l_1050.2.2.2.2.2.1
theorem dL_law_1418 : decode cL_law 1418 = .ok (.pop, 1) := dq_41_l_1050.2.2.2.2.2.2.1
theorem dL_law_1419 : decode cL_law 1419 = .ok (.aload_n 2, 1) := dq_41_l_1050.2.2.2.2.2.2.2.1
theorem dL_law_1420 : decode cL_law 1420 = .ok (.aload_n 0, 1) := dq_41_l_1050.2.2.2.2.2.2.2.2.1
theorem dL_law_1421 : decode cL_law 1421 = .ok (.iload_n 3, 1) := dq_41_l_1050.2.2.2.2.2.2.2.2.2
theorem dq_41_l_1060 : (decode cL_law 1422 = .ok (.iconst 1, 1)) ∧ (decode cL_law 1423 = .ok (.iadd, 1)) ∧ (decode cL_law 1424 = .ok (.iaload, 1)) ∧ (decode cL_law 1425 = .ok (.aload_n 0, 1)) ∧ (decode cL_law 1426 = .ok (.iload_n 3, 1)) ∧ (decode cL_law 1427 = .ok (.iconst 2, 1)) ∧ (decode cL_law 1428 = .ok (.iadd, 1)) ∧ (decode cL_law 1429 = .ok (.iaload, 1)) ∧ (decode cL_law 1430 = .ok (.aload_n 0, 1)) ∧ (decode cL_law 1431 = .ok (.iload_n 3, 1)) := by decide +kernel
theorem dL_law_1422 : decode cL_law 1422 = .ok (.iconst 1, 1) := dq_41_l_1060.1
theorem dL_law_1423 : decode cL_law 1423 = .ok (.iadd, 1) := dq_41_l_1060.2.1
theorem dL_law_1424 : decode cL_law 1424 = .ok (.iaload, 1) := dq_41_l_1060.2.2.1
theorem dL_law_1425 : decode cL_law 1425 = .ok (.aload_n 0, 1) := dq_41_l_1060.2.2.2.1
theorem dL_law_1426 : decode cL_law 1426 = .ok (.iload_n 3, 1) := dq_41_l_1060.2.2.2.2.1
theorem dL_law_1427 : decode cL_law 1427 = .ok (.iconst 2, 1) := dq_41_l_1060.2.2.2.2.2.1
theorem dL_law_1428 : decode cL_law 1428 = .ok (.iadd, 1) := dq_41_l_1060.2.2.2.2.2.2.1
theorem dL_law_1429 : decode cL_law 1429 = .ok (.iaload, 1) := dq_41_l_1060.2.2.2.2.2.2.2.1
theorem dL_law_1430 : decode cL_law 1430 = .ok (.aload_n 0, 1) := dq_41_l_1060.2.2.2.2.2.2.2.2.1
theorem dL_law_1431 : decode cL_law 1431 = .ok (.iload_n 3, 1) := dq_41_l_1060.2.2.2.2.2.2.2.2.2
theorem dq_41_l_1070 : (decode cL_law 1432 = .ok (.iconst 3, 1)) ∧ (decode cL_law 1433 = .ok (.iadd, 1)) ∧ (decode cL_law 1434 = .ok (.iaload, 1)) ∧ (decode cL_law 1435 = .ok (.invokevirtual 136, 3)) ∧ (decode cL_law 1438 = .ok (.pop, 1)) ∧ (decode cL_law 1439 = .ok (.goto 439, 3)) ∧ (decode cL_law 1442 = .ok (.aload_n 1, 1)) ∧ (decode cL_law 1443 = .ok (.aload_n 0, 1)) ∧ (decode cL_law 1444 = .ok (.iload_n 3, 1)) ∧ (decode cL_law 1445 = .ok (.iconst 1, 1)) := by decide +kernel
theorem dL_law_1432 : decode cL_law 1432 = .ok (.iconst 3, 1) := dq_41_l_1070.1
theorem dL_law_1433 : decode cL_law 1433 = .ok (.iadd, 1) := dq_41_l_1070.2.1
theorem dL_law_1434 : decode cL_law 1434 = .ok (.iaload, 1) := dq_41_l_1070.2.2.1
theorem dL_law_1435 : decode cL_law 1435 = .ok (.invokevirtual 136, 3) := dq_41_l_1070.2.2.2.1
theorem dL_law_1438 : decode cL_law 1438 = .ok (.pop, 1) := dq_41_l_1070.2.2.2.2.1
theorem dL_law_1439 : decode cL_law 1439 = .ok (.goto 439, 3) := dq_41_l_1070.2.2.2.2.2.1
theorem dL_law_1442 : decode cL_law 1442 = .ok (.aload_n 1, 1) := dq_41_l_1070.2.2.2.2.2.2.1
theorem dL_law_1443 : decode cL_law 1443 = .ok (.aload_n 0, 1) := dq_41_l_1070.2.2.2.2.2.2.2.1
theorem dL_law_1444 : decode cL_law 1444 = .ok (.iload_n 3, 1) := dq_41_l_1070.2.2.2.2.2.2.2.2.1
theorem dL_law_1445 : decode cL_law 1445 = .ok (.iconst 1, 1) := dq_41_l_1070.2.2.2.2.2.2.2.2.2
theorem dq_41_l_1080 : (decode cL_law 1446 = .ok (.iadd, 1)) ∧ (decode cL_law 1447 = .ok (.iaload, 1)) ∧ (decode cL_law 1448 = .ok (.aload_n 0, 1)) ∧ (decode cL_law 1449 = .ok (.iload_n 3, 1)) ∧ (decode cL_law 1450 = .ok (.iconst 2, 1)) ∧ (decode cL_law 1451 = .ok (.iadd, 1)) ∧ (decode cL_law 1452 = .ok (.iaload, 1)) ∧ (decode cL_law 1453 = .ok (.aload_n 0, 1)) ∧ (decode cL_law 1454 = .ok (.iload_n 3, 1)) ∧ (decode cL_law 1455 = .ok (.iconst 3, 1)) := by decide +kernel
theorem dL_law_1446 : decode cL_law 1446 = .ok (.iadd, 1) := dq_41_l_1080.1
theorem dL_law_1447 : decode cL_law 1447 = .ok (.iaload, 1) := dq_41_l_1080.2.1
theorem dL_law_1448 : decode cL_law 1448 = .ok (.aload_n 0, 1) := dq_41_l_1080.2.2.1
theorem dL_law_1449 : decode cL_law 1449 = .ok (.iload_n 3, 1) := dq_41_l_1080.2.2.2.1
theorem dL_law_1450 : decode cL_law 1450 = .ok (.iconst 2, 1) := dq_41_l_1080.2.2.2.2.1
theorem dL_law_1451 : decode cL_law 1451 = .ok (.iadd, 1) := dq_41_l_1080.2.2.2.2.2.1
theorem dL_law_1452 : decode cL_law 1452 = .ok (.iaload, 1) := dq_41_l_1080.2.2.2.2.2.2.1
theorem dL_law_1453 : decode cL_law 1453 = .ok (.aload_n 0, 1) := dq_41_l_1080.2.2.2.2.2.2.2.1
theorem dL_law_1454 : decode cL_law 1454 = .ok (.iload_n 3, 1) := dq_41_l_1080.2.2.2.2.2.2.2.2.1
theorem dL_law_1455 : decode cL_law 1455 = .ok (.iconst 3, 1) := dq_41_l_1080.2.2.2.2.2.2.2.2.2
theorem dq_41_l_1090 : (decode cL_law 1456 = .ok (.iadd, 1)) ∧ (decode cL_law 1457 = .ok (.iaload, 1)) ∧ (decode cL_law 1458 = .ok (.invokevirtual 137, 3)) ∧ (decode cL_law 1461 = .ok (.pop2, 1)) ∧ (decode cL_law 1462 = .ok (.aload_n 2, 1)) ∧ (decode cL_law 1463 = .ok (.aload_n 0, 1)) ∧ (decode cL_law 1464 = .ok (.iload_n 3, 1)) ∧ (decode cL_law 1465 = .ok (.iconst 1, 1)) ∧ (decode cL_law 1466 = .ok (.iadd, 1)) ∧ (decode cL_law 1467 = .ok (.iaload, 1)) := by decide +kernel
theorem dL_law_1456 : decode cL_law 1456 = .ok (.iadd, 1) := dq_41_l_1090.1
theorem dL_law_1457 : decode cL_law 1457 = .ok (.iaload, 1) := dq_41_l_1090.2.1
theorem dL_law_1458 : decode cL_law 1458 = .ok (.invokevirtual 137, 3) := dq_41_l_1090.2.2.1
theorem dL_law_1461 : decode cL_law 1461 = .ok (.pop2, 1) := dq_41_l_1090.2.2.2.1
theorem dL_law_1462 : decode cL_law 1462 = .ok (.aload_n 2, 1) := dq_41_l_1090.2.2.2.2.1
theorem dL_law_1463 : decode cL_law 1463 = .ok (.aload_n 0, 1) := dq_41_l_1090.2.2.2.2.2.1
theorem dL_law_1464 : decode cL_law 1464 = .ok (.iload_n 3, 1) := dq_41_l_1090.2.2.2.2.2.2.1
theorem dL_law_1465 : decode cL_law 1465 = .ok (.iconst 1, 1) := dq_41_l_1090.2.2.2.2.2.2.2.1
theorem dL_law_1466 : decode cL_law 1466 = .ok (.iadd, 1) := dq_41_l_1090.2.2.2.2.2.2.2.2.1
theorem dL_law_1467 : decode cL_law 1467 = .ok (.iaload, 1) := dq_41_l_1090.2.2.2.2.2.2.2.2.2
theorem dq_41_l_1100 : (decode cL_law 1468 = .ok (.aload_n 0, 1)) ∧ (decode cL_law 1469 = .ok (.iload_n 3, 1)) ∧ (decode cL_law 1470 = .ok (.iconst 2, 1)) ∧ (decode cL_law 1471 = .ok (.iadd, 1)) ∧ (decode cL_law 1472 = .ok (.iaload, 1)) ∧ (decode cL_law 1473 = .ok (.aload_n 0, 1)) ∧ (decode cL_law 1474 = .ok (.iload_n 3, 1)) ∧ (decode cL_law 1475 = .ok (.iconst 3, 1)) ∧ (decode cL_law 1476 = .ok (.iadd, 1)) ∧ (decode cL_law 1477 = .ok (.iaload, 1)) := by decide +kernel
theorem dL_law_1468 : decode cL_law 1468 = .ok (.aload_n 0, 1) := dq_41_l_1100.1
theorem dL_law_1469 : decode cL_law 1469 = .ok (.iload_n 3, 1) := dq_41_l_1100.2.1
theorem dL_law_1470 : decode cL_law 1470 = .ok (.iconst 2, 1) := dq_41_l_1100.2.2.1
theorem dL_law_1471 : decode cL_law 1471 = .ok (.iadd, 1) := dq_41_l_1100.2.2.2.1
theorem dL_law_1472 : decode cL_law 1472 = .ok (.iaload, 1) := dq_41_l_1100.2.2.2.2.1
theorem dL_law_1473 : decode cL_law 1473 = .ok (.aload_n 0, 1) := dq_41_l_1100.2.2.2.2.2.1
theorem dL_law_1474 : decode cL_law 1474 = .ok (.iload_n 3, 1) := dq_41_l_1100.2.2.2.2.2.2.1
theorem dL_law_1475 : decode cL_law 1475 = .ok (.iconst 3, 1) := dq_41_l_1100.2.2.2.2.2.2.2.1
theorem dL_law_1476 : decode cL_law 1476 = .ok (.iadd, 1) := dq_41_l_1100.2.2.2.2.2.2.2.2.1
theorem dL_law_1477 : decode cL_law 1477 = .ok (.iaload, 1) := dq_41_l_1100.2.2.2.2.2.2.2.2.2
theorem dq_41_l_1110 : (decode cL_law 1478 = .ok (.invokevirtual 140, 3)) ∧ (decode cL_law 1481 = .ok (.pop2, 1)) ∧ (decode cL_law 1482 = .ok (.goto 396, 3)) ∧ (decode cL_law 1485 = .ok (.aload_n 1, 1)) ∧ (decode cL_law 1486 = .ok (.aload_n 0, 1)) ∧ (decode cL_law 1487 = .ok (.iload_n 3, 1)) ∧ (decode cL_law 1488 = .ok (.iconst 1, 1)) ∧ (decode cL_law 1489 = .ok (.iadd, 1)) ∧ (decode cL_law 1490 = .ok (.iaload, 1)) ∧ (decode cL_law 1491 = .ok (.aload_n 0, 1)) := by decide +kernel
theorem dL_law_1478 : decode cL_law 1478 = .ok (.invokevirtual 140, 3) := dq_41_l_1110.1
theorem dL_law_1481 : decode cL_law 1481 = .ok (.pop2, 1) := dq_41_l_1110.2.1
theorem dL_law_1482 : decode cL_law 1482 = .ok (.goto 396, 3) := dq_41_l_1110.2.2.1
theorem dL_law_1485 : decode cL_law 1485 = .ok (.aload_n 1, 1) := dq_41_l_1110.2.2.2.1
theorem dL_law_1486 : decode cL_law 1486 = .ok (.aload_n 0, 1) := dq_41_l_1110.2.2.2.2.1
theorem dL_law_1487 : decode cL_law 1487 = .ok (.iload_n 3, 1) := dq_41_l_1110.2.2.2.2.2.1
theorem dL_law_1488 : decode cL_law 1488 = .ok (.iconst 1, 1) := dq_41_l_1110.2.2.2.2.2.2.1
theorem dL_law_1489 : decode cL_law 1489 = .ok (.iadd, 1) := dq_41_l_1110.2.2.2.2.2.2.2.1
theorem dL_law_1490 : decode cL_law 1490 = .ok (.iaload, 1) := dq_41_l_1110.2.2.2.2.2.2.2.2.1
theorem dL_law_1491 : decode cL_law 1491 = .ok (.aload_n 0, 1) := dq_41_l_1110.2.2.2.2.2.2.2.2.2
theorem dq_41_l_1120 : (decode cL_law 1492 = .ok (.iload_n 3, 1)) ∧ (decode cL_law 1493 = .ok (.iconst 2, 1)) ∧ (decode cL_law 1494 = .ok (.iadd, 1)) ∧ (decode cL_law 1495 = .ok (.iaload, 1)) ∧ (decode cL_law 1496 = .ok (.invokevirtual 141, 3)) ∧ (decode cL_law 1499 = .ok (.pop, 1)) ∧ (decode cL_law 1500 = .ok (.aload_n 2, 1)) ∧ (decode cL_law 1501 = .ok (.aload_n 0, 1)) ∧ (decode cL_law 1502 = .ok (.iload_n 3, 1)) ∧ (decode cL_law 1503 = .ok (.iconst 1, 1)) := by decide +kernel
theorem dL_law_1492 : decode cL_law 1492 = .ok (.iload_n 3, 1) := dq_41_l_1120.1
theorem dL_law_1493 : decode cL_law 1493 = .ok (.iconst 2, 1) := dq_41_l_1120.2.1
theorem dL_law_1494 : decode cL_law 1494 = .ok (.iadd, 1) := dq_41_l_1120.2.2.1
theorem dL_law_1495 : decode cL_law 1495 = .ok (.iaload, 1) := dq_41_l_1120.2.2.2.1
theorem dL_law_1496 : decode cL_law 1496 = .ok (.invokevirtual 141, 3) := dq_41_l_1120.2.2.2.2.1
theorem dL_law_1499 : decode cL_law 1499 = .ok (.pop, 1) := dq_41_l_1120.2.2.2.2.2.1
theorem dL_law_1500 : decode cL_law 1500 = .ok (.aload_n 2, 1) := dq_41_l_1120.2.2.2.2.2.2.1
theorem dL_law_1501 : decode cL_law 1501 = .ok (.aload_n 0, 1) := dq_41_l_1120.2.2.2.2.2.2.2.1
theorem dL_law_1502 : decode cL_law 1502 = .ok (.iload_n 3, 1) := dq_41_l_1120.2.2.2.2.2.2.2.2.1
theorem dL_law_1503 : decode cL_law 1503 = .ok (.iconst 1, 1) := dq_41_l_1120.2.2.2.2.2.2.2.2.2
theorem dq_41_l_1130 : (decode cL_law 1504 = .ok (.iadd, 1)) ∧ (decode cL_law 1505 = .ok (.iaload, 1)) ∧ (decode cL_law 1506 = .ok (.aload_n 0, 1)) ∧ (decode cL_law 1507 = .ok (.iload_n 3, 1)) ∧ (decode cL_law 1508 = .ok (.iconst 2, 1)) ∧ (decode cL_law 1509 = .ok (.iadd, 1)) ∧ (decode cL_law 1510 = .ok (.iaload, 1)) ∧ (decode cL_law 1511 = .ok (.invokevirtual 144, 3)) ∧ (decode cL_law 1514 = .ok (.pop, 1)) ∧ (decode cL_law 1515 = .ok (.goto 363, 3)) := by decide +kernel
theorem dL_law_1504 : decode cL_law 1504 = .ok (.iadd, 1) := dq_41_l_1130.1
theorem dL_law_1505 : decode cL_law 1505 = .ok (.iaload, 1) := dq_41_l_1130.2.1
theorem dL_law_1506 : decode cL_law 1506 = .ok (.aload_n 0, 1) := dq_41_l_1130.2.2.1
theorem dL_law_1507 : decode cL_law 1507 = .ok (.iload_n 3, 1) := dq_41_l_1130.2.2.2.1
theorem dL_law_1508 : decode cL_law 1508 = .ok (.iconst 2, 1) := dq_41_l_1130.2.2.2.2.1
theorem dL_law_1509 : decode cL_law 1509 = .ok (.iadd, 1) := dq_41_l_1130.2.2.2.2.2.1
theorem dL_law_1510 : decode cL_law 1510 = .ok (.iaload, 1) := dq_41_l_1130.2.2.2.2.2.2.1
theorem dL_law_1511 : decode cL_law 1511 = .ok (.invokevirtual 144, 3) := dq_41_l_1130.2.2.2.2.2.2.2.1
theorem dL_law_1514 : decode cL_law 1514 = .ok (.pop, 1) := dq_41_l_1130.2.2.2.2.2.2.2.2.1
theorem dL_law_1515 : decode cL_law 1515 = .ok (.goto 363, 3) := dq_41_l_1130.2.2.2.2.2.2.2.2.2
theorem dq_41_l_1140 : (decode cL_law 1518 = .ok (.aload_n 1, 1)) ∧ (decode cL_law 1519 = .ok (.aload_n 0, 1)) ∧ (decode cL_law 1520 = .ok (.iload_n 3, 1)) ∧ (decode cL_law 1521 = .ok (.iconst 1, 1)) ∧ (decode cL_law 1522 = .ok (.iadd, 1)) ∧ (decode cL_law 1523 = .ok (.iaload, 1)) ∧ (decode cL_law 1524 = .ok (.aload_n 0, 1)) ∧ (decode cL_law 1525 = .ok (.iload_n 3, 1)) ∧ (decode cL_law 1526 = .ok (.iconst 2, 1)) ∧ (decode cL_law 1527 = .ok (.iadd, 1)) := by decide +kernel
theorem dL_law_1518 : decode cL_law 1518 = .ok (.aload_n 1, 1) := dq_41_l_1140.1
theorem dL_law_1519 : decode cL_law 1519 = .ok (.aload_n 0, 1) := dq_41_l_1140.2.1
theorem dL_law_1520 : decode cL_law 1520 = .ok (.iload_n 3, 1) := dq_41_l_1140.2.2.1
theorem dL_law_1521 : decode cL_law 1521 = .ok (.iconst 1, 1) := dq_41_l_1140.2.2.2.1
theorem dL_law_1522 : decode cL_law 1522 = .ok (.iadd, 1) := dq_41_l_1140.2.2.2.2.1
theorem dL_law_1523 : decode cL_law 1523 = .ok (.iaload, 1) := dq_41_l_1140.2.2.2.2.2.1
theorem dL_law_1524 : decode cL_law 1524 = .ok (.aload_n 0, 1) := dq_41_l_1140.2.2.2.2.2.2.1
theorem dL_law_1525 : decode cL_law 1525 = .ok (.iload_n 3, 1) := dq_41_l_1140.2.2.2.2.2.2.2.1
theorem dL_law_1526 : decode cL_law 1526 = .ok (.iconst 2, 1) := dq_41_l_1140.2.2.2.2.2.2.2.2.1
theorem dL_law_1527 : decode cL_law 1527 = .ok (.iadd, 1) := dq_41_l_1140.2.2.2.2.2.2.2.2.2
theorem dq_41_l_1150 : (decode cL_law 1528 = .ok (.iaload, 1)) ∧ (decode cL_law 1529 = .ok (.aload_n 0, 1)) ∧ (decode cL_law 1530 = .ok (.iload_n 3, 1)) ∧ (decode cL_law 1531 = .ok (.iconst 3, 1)) ∧ (decode cL_law 1532 = .ok (.iadd, 1)) ∧ (decode cL_law 1533 = .ok (.iaload, 1)) ∧ (decode cL_law 1534 = .ok (.aload_n 0, 1)) ∧ (decode cL_law 1535 = .ok (.iload_n 3, 1)) ∧ (decode cL_law 1536 = .ok (.iconst 4, 1)) ∧ (decode cL_law 1537 = .ok (.iadd, 1)) := by decide +kernel
theorem dL_law_1528 : decode cL_law 1528 = .ok (.iaload, 1) := dq_41_l_1150.1
theorem dL_law_1529 : decode cL_law 1529 = .ok (.aload_n 0, 1) := dq_41_l_1150.2.1
theorem dL_law_1530 : decode cL_law 1530 = .ok (.iload_n 3, 1) := dq_41_l_1150.2.2.1
theorem dL_law_1531 : decode cL_law 1531 = .ok (.iconst 3, 1) := dq_41_l_1150.2.2.2.1
theorem dL_law_1532 : decode cL_law 1532 = .ok (.iadd, 1) := dq_41_l_1150.2.2.2.2.1
theorem dL_law_1533 : decode cL_law 1533 = .ok (.iaload, 1) := dq_41_l_1150.2.2.2.2.2.1
theorem dL_law_1534 : decode cL_law 1534 = .ok (.aload_n 0, 1) := dq_41_l_1150.2.2.2.2.2.2.1
theorem dL_law_1535 : decode cL_law 1535 = .ok (.iload_n 3, 1) := dq_41_l_1150.2.2.2.2.2.2.2.1
theorem dL_law_1536 : decode cL_law 1536 = .ok (.iconst 4, 1) := dq_41_l_1150.2.2.2.2.2.2.2.2.1
theorem dL_law_1537 : decode cL_law 1537 = .ok (.iadd, 1) := dq_41_l_1150.2.2.2.2.2.2.2.2.2
theorem dq_41_l_1160 : (decode cL_law 1538 = .ok (.iaload, 1)) ∧ (decode cL_law 1539 = .ok (.aload_n 0, 1)) ∧ (decode cL_law 1540 = .ok (.iload_n 3, 1)) ∧ (decode cL_law 1541 = .ok (.iconst 5, 1)) ∧ (decode cL_law 1542 = .ok (.iadd, 1)) ∧ (decode cL_law 1543 = .ok (.iaload, 1)) ∧ (decode cL_law 1544 = .ok (.invokevirtual 145, 3)) ∧ (decode cL_law 1547 = .ok (.pop, 1)) ∧ (decode cL_law 1548 = .ok (.aload_n 2, 1)) ∧ (decode cL_law 1549 = .ok (.aload_n 0, 1)) := by decide +kernel
theorem dL_law_1538 : decode cL_law 1538 = .ok (.iaload, 1) := dq_41_l_1160.1
theorem dL_law_1539 : decode cL_law 1539 = .ok (.aload_n 0, 1) := dq_41_l_1160.2.1
theorem dL_law_1540 : decode cL_law 1540 = .ok (.iload_n 3, 1) := dq_41_l_1160.2.2.1
theorem dL_law_1541 : decode cL_law 1541 = .ok (.iconst 5, 1) := dq_41_l_1160.2.2.2.1
theorem dL_law_1542 : decode cL_law 1542 = .ok (.iadd, 1) := dq_41_l_1160.2.2.2.2.1
theorem dL_law_1543 : decode cL_law 1543 = .ok (.iaload, 1) := dq_41_l_1160.2.2.2.2.2.1
theorem dL_law_1544 : decode cL_law 1544 = .ok (.invokevirtual 145, 3) := dq_41_l_1160.2.2.2.2.2.2.1
theorem dL_law_1547 : decode cL_law 1547 = .ok (.pop, 1) := dq_41_l_1160.2.2.2.2.2.2.2.1
theorem dL_law_1548 : decode cL_law 1548 = .ok (.aload_n 2, 1) := dq_41_l_1160.2.2.2.2.2.2.2.2.1
theorem dL_law_1549 : decode cL_law 1549 = .ok (.aload_n 0, 1) := dq_41_l_1160.2.2.2.2.2.2.2.2.2
theorem dq_41_l_1170 : (decode cL_law 1550 = .ok (.iload_n 3, 1)) ∧ (decode cL_law 1551 = .ok (.iconst 1, 1)) ∧ (decode cL_law 1552 = .ok (.iadd, 1)) ∧ (decode cL_law 1553 = .ok (.iaload, 1)) ∧ (decode cL_law 1554 = .ok (.aload_n 0, 1)) ∧ (decode cL_law 1555 = .ok (.iload_n 3, 1)) ∧ (decode cL_law 1556 = .ok (.iconst 2, 1)) ∧ (decode cL_law 1557 = .ok (.iadd, 1)) ∧ (decode cL_law 1558 = .ok (.iaload, 1)) ∧ (decode cL_law 1559 = .ok (.aload_n 0, 1)) := by decide +kernel
theorem dL_law_1550 : decode cL_law 1550 = .ok (.iload_n 3, 1) := dq_41_l_1170.1
theorem dL_law_1551 : decode cL_law 1551 = .ok (.iconst 1, 1) := dq_41_l_1170.2.1
theorem dL_law_1552 : decode cL_law 1552 = .ok (.iadd, 1) := dq_41_l_1170.2.2.1
theorem dL_law_1553 : decode cL_law 1553 = .ok (.iaload, 1) := dq_41_l_1170.2.2.2.1
theorem dL_law_1554 : decode cL_law 1554 = .ok (.aload_n 0, 1) := dq_41_l_1170.2.2.2.2.1
theorem dL_law_1555 : decode cL_law 1555 = .ok (.iload_n 3, 1) := dq_41_l_1170.2.2.2.2.2.1
theorem dL_law_1556 : decode cL_law 1556 = .ok (.iconst 2, 1) := dq_41_l_1170.2.2.2.2.2.2.1
theorem dL_law_1557 : decode cL_law 1557 = .ok (.iadd, 1) := dq_41_l_1170.2.2.2.2.2.2.2.1
theorem dL_law_1558 : decode cL_law 1558 = .ok (.iaload, 1) := dq_41_l_1170.2.2.2.2.2.2.2.2.1
theorem dL_law_1559 : decode cL_law 1559 = .ok (.aload_n 0, 1) := dq_41_l_1170.2.2.2.2.2.2.2.2.2
theorem dq_41_l_1180 : (decode cL_law 1560 = .ok (.iload_n 3, 1)) ∧ (decode cL_law 1561 = .ok (.iconst 3, 1)) ∧ (decode cL_law 1562 = .ok (.iadd, 1)) ∧ (decode cL_law 1563 = .ok (.iaload, 1)) ∧ (decode cL_law 1564 = .ok (.aload_n 0, 1)) ∧ (decode cL_law 1565 = .ok (.iload_n 3, 1)) ∧ (decode cL_law 1566 = .ok (.iconst 4, 1)) ∧ (decode cL_law 1567 = .ok (.iadd, 1)) ∧ (decode cL_law 1568 = .ok (.iaload, 1)) ∧ (decode cL_law 1569 = .ok (.aload_n 0, 1)) := by decide +kernel
theorem dL_law_1560 : decode cL_law 1560 = .ok (.iload_n 3, 1) := dq_41_l_1180.1
theorem dL_law_1561 : decode cL_law 1561 = .ok (.iconst 3, 1) := dq_41_l_1180.2.1
theorem dL_law_1562 : decode cL_law 1562 = .ok (.iadd, 1) := dq_41_l_1180.2.2.1
theorem dL_law_1563 : decode cL_law 1563 = .ok (.iaload, 1) := dq_41_l_1180.2.2.2.1
theorem dL_law_1564 : decode cL_law 1564 = .ok (.aload_n 0, 1) := dq_41_l_1180.2.2.2.2.1
theorem dL_law_1565 : decode cL_law 1565 = .ok (.iload_n 3, 1) := dq_41_l_1180.2.2.2.2.2.1
theorem dL_law_1566 : decode cL_law 1566 = .ok (.iconst 4, 1) := dq_41_l_1180.2.2.2.2.2.2.1
theorem dL_law_1567 : decode cL_law 1567 = .ok (.iadd, 1) := dq_41_l_1180.2.2.2.2.2.2.2.1
theorem dL_law_1568 : decode cL_law 1568 = .ok (.iaload, 1) := dq_41_l_1180.2.2.2.2.2.2.2.2.1
theorem dL_law_1569 : decode cL_law 1569 = .ok (.aload_n 0, 1) := dq_41_l_1180.2.2.2.2.2.2.2.2.2
theorem dq_41_l_1190 : (decode cL_law 1570 = .ok (.iload_n 3, 1)) ∧ (decode cL_law 1571 = .ok (.iconst 5, 1)) ∧ (decode cL_law 1572 = .ok (.iadd, 1)) ∧ (decode cL_law 1573 = .ok (.iaload, 1)) ∧ (decode cL_law 1574 = .ok (.invokevirtual 148, 3)) ∧ (decode cL_law 1577 = .ok (.pop, 1)) ∧ (decode cL_law 1578 = .ok (.goto 300, 3)) ∧ (decode cL_law 1581 = .ok (.aload_n 1, 1)) ∧ (decode cL_law 1582 = .ok (.invokevirtual 149, 3)) ∧ (decode cL_law 1585 = .ok (.pop, 1)) := by decide +kernel
theorem dL_law_1570 : decode cL_law 1570 = .ok (.iload_n 3, 1) := dq_41_l_1190.1
theorem dL_law_1571 : decode cL_law 1571 = .ok (.iconst 5, 1) := dq_41_l_1190.2.1
theorem dL_law_1572 : decode cL_law 1572 = .ok (.iadd, 1) := dq_41_l_1190.2.2.1
theorem dL_law_1573 : decode cL_law 1573 = .ok (.iaload, 1) := dq_41_l_1190.2.2.2.1
theorem dL_law_1574 : decode cL_law 1574 = .ok (.invokevirtual 148, 3) := dq_41_l_1190.2.2.2.2.1
theorem dL_law_1577 : decode cL_law 1577 = .ok (.pop, 1) := dq_41_l_1190.2.2.2.2.2.1
theorem dL_law_1578 : decode cL_law 1578 = .ok (.goto 300, 3) := dq_41_l_1190.2.2.2.2.2.2.1
theorem dL_law_1581 : decode cL_law 1581 = .ok (.aload_n 1, 1) := dq_41_l_1190.2.2.2.2.2.2.2.1
theorem dL_law_1582 : decode cL_law 1582 = .ok (.invokevirtual 149, 3) := dq_41_l_1190.2.2.2.2.2.2.2.2.1
theorem dL_law_1585 : decode cL_law 1585 = .ok (.pop, 1) := dq_41_l_1190.2.2.2.2.2.2.2.2.2
theorem dq_41_l_1200 : (decode cL_law 1586 = .ok (.aload_n 2, 1)) ∧ (decode cL_law 1587 = .ok (.invokevirtual 153, 3)) ∧ (decode cL_law 1590 = .ok (.pop, 1)) ∧ (decode cL_law 1591 = .ok (.goto 287, 3)) ∧ (decode cL_law 1594 = .ok (.aload_n 1, 1)) ∧ (decode cL_law 1595 = .ok (.aload_n 0, 1)) ∧ (decode cL_law 1596 = .ok (.iload_n 3, 1)) ∧ (decode cL_law 1597 = .ok (.iconst 1, 1)) ∧ (decode cL_law 1598 = .ok (.iadd, 1)) ∧ (decode cL_law 1599 = .ok (.iaload, 1)) := by decide +kernel
theorem dL_law_1586 : decode cL_law 1586 = .ok (.aload_n 2, 1) := dq_41_l_1200.1
theorem dL_law_1587 : decode cL_law 1587 = .ok (.invokevirtual 153, 3) := dq_41_l_1200.2.1
theorem dL_law_1590 : decode cL_law 1590 = .ok (.pop, 1) := dq_41_l_1200.2.2.1
theorem dL_law_1591 : decode cL_law 1591 = .ok (.goto 287, 3) := dq_41_l_1200.2.2.2.1
theorem dL_law_1594 : decode cL_law 1594 = .ok (.aload_n 1, 1) := dq_41_l_1200.2.2.2.2.1
theorem dL_law_1595 : decode cL_law 1595 = .ok (.aload_n 0, 1) := dq_41_l_1200.2.2.2.2.2.1
theorem dL_law_1596 : decode cL_law 1596 = .ok (.iload_n 3, 1) := dq_41_l_1200.2.2.2.2.2.2.1
theorem dL_law_1597 : decode cL_law 1597 = .ok (.iconst 1, 1) := dq_41_l_1200.2.2.2.2.2.2.2.1
theorem dL_law_1598 : decode cL_law 1598 = .ok (.iadd, 1) := dq_41_l_1200.2.2.2.2.2.2.2.2.1
theorem dL_law_1599 : decode cL_law 1599 = .ok (.iaload, 1) := dq_41_l_1200.2.2.2.2.2.2.2.2.2
theorem dq_41_l_1210 : (decode cL_law 1600 = .ok (.aload_n 0, 1)) ∧ (decode cL_law 1601 = .ok (.iload_n 3, 1)) ∧ (decode cL_law 1602 = .ok (.iconst 2, 1)) ∧ (decode cL_law 1603 = .ok (.iadd, 1)) ∧ (decode cL_law 1604 = .ok (.iaload, 1)) ∧ (decode cL_law 1605 = .ok (.invokevirtual 154, 3)) ∧ (decode cL_law 1608 = .ok (.pop, 1)) ∧ (decode cL_law 1609 = .ok (.aload_n 2, 1)) ∧ (decode cL_law 1610 = .ok (.aload_n 0, 1)) ∧ (decode cL_law 1611 = .ok (.iload_n 3, 1)) := by decide +kernel
theorem dL_law_1600 : decode cL_law 1600 = .ok (.aload_n 0, 1) := dq_41_l_1210.1
theorem dL_law_1601 : decode cL_law 1601 = .ok (.iload_n 3, 1) := dq_41_l_1210.2.1
theorem dL_law_1602 : decode cL_law 1602 = .ok (.iconst 2, 1) := dq_41_l_1210.2.2.1
theorem dL_law_1603 : decode cL_law 1603 = .ok (.iadd, 1) := dq_41_l_1210.2.2.2.1
theorem dL_law_1604 : decode cL_law 1604 = .ok (.iaload, 1) := dq_41_l_1210.2.2.2.2.1
theorem dL_law_1605 : decode cL_law 1605 = .ok (.invokevirtual 154, 3) := dq_41_l_1210.2.2.2.2.2.1
theorem dL_law_1608 : decode cL_law 1608 = .ok (.pop, 1) := dq_41_l_1210.2.2.2.2.2.2.1
theorem dL_law_1609 : decode cL_law 1609 = .ok (.aload_n 2, 1) := dq_41_l_1210.2.2.2.2.2.2.2.1
theorem dL_law_1610 : decode cL_law 1610 = .ok (.aload_n 0, 1) := dq_41_l_1210.2.2.2.2.2.2.2.2.1
theorem dL_law_1611 : decode cL_law 1611 = .ok (.iload_n 3, 1) := dq_41_l_1210.2.2.2.2.2.2.2.2.2
theorem dq_41_l_1220 : (decode cL_law 1612 = .ok (.iconst 1, 1)) ∧ (decode cL_law 1613 = .ok (.iadd, 1)) ∧ (decode cL_law 1614 = .ok (.iaload, 1)) ∧ (decode cL_law 1615 = .ok (.aload_n 0, 1)) ∧ (decode cL_law 1616 = .ok (.iload_n 3, 1)) ∧ (decode cL_law 1617 = .ok (.iconst 2, 1)) ∧ (decode cL_law 1618 = .ok (.iadd, 1)) ∧ (decode cL_law 1619 = .ok (.iaload, 1)) ∧ (decode cL_law 1620 = .ok (.invokevirtual 157, 3)) ∧ (decode cL_law 1623 = .ok (.pop, 1)) := by decide +kernel
theorem dL_law_1612 : decode cL_law 1612 = .ok (.iconst 1, 1) := dq_41_l_1220.1
theorem dL_law_1613 : decode cL_law 1613 = .ok (.iadd, 1) := dq_41_l_1220.2.1
theorem dL_law_1614 : decode cL_law 1614 = .ok (.iaload, 1) := dq_41_l_1220.2.2.1
theorem dL_law_1615 : decode cL_law 1615 = .ok (.aload_n 0, 1) := dq_41_l_1220.2.2.2.1
theorem dL_law_1616 : decode cL_law 1616 = .ok (.iload_n 3, 1) := dq_41_l_1220.2.2.2.2.1
theorem dL_law_1617 : decode cL_law 1617 = .ok (.iconst 2, 1) := dq_41_l_1220.2.2.2.2.2.1
theorem dL_law_1618 : decode cL_law 1618 = .ok (.iadd, 1) := dq_41_l_1220.2.2.2.2.2.2.1
theorem dL_law_1619 : decode cL_law 1619 = .ok (.iaload, 1) := dq_41_l_1220.2.2.2.2.2.2.2.1
theorem dL_law_1620 : decode cL_law 1620 = .ok (.invokevirtual 157, 3) := dq_41_l_1220.2.2.2.2.2.2.2.2.1
theorem dL_law_1623 : decode cL_law 1623 = .ok (.pop, 1) := dq_41_l_1220.2.2.2.2.2.2.2.2.2
theorem dq_41_l_1230 : (decode cL_law 1624 = .ok (.goto 254, 3)) ∧ (decode cL_law 1627 = .ok (.aload_n 1, 1)) ∧ (decode cL_law 1628 = .ok (.aload_n 0, 1)) ∧ (decode cL_law 1629 = .ok (.iload_n 3, 1)) ∧ (decode cL_law 1630 = .ok (.iconst 1, 1)) ∧ (decode cL_law 1631 = .ok (.iadd, 1)) ∧ (decode cL_law 1632 = .ok (.iaload, 1)) ∧ (decode cL_law 1633 = .ok (.aload_n 0, 1)) ∧ (decode cL_law 1634 = .ok (.iload_n 3, 1)) ∧ (decode cL_law 1635 = .ok (.iconst 2, 1)) := by decide +kernel
theorem dL_law_1624 : decode cL_law 1624 = .ok (.goto 254, 3) := dq_41_l_1230.1
theorem dL_law_1627 : decode cL_law 1627 = .ok (.aload_n 1, 1) := dq_41_l_1230.2.1
theorem dL_law_1628 : decode cL_law 1628 = .ok (.aload_n 0, 1) := dq_41_l_1230.2.2.1
theorem dL_law_1629 : decode cL_law 1629 = .ok (.iload_n 3, 1) := dq_41_l_1230.2.2.2.1
theorem dL_law_1630 : decode cL_law 1630 = .ok (.iconst 1, 1) := dq_41_l_1230.2.2.2.2.1
theorem dL_law_1631 : decode cL_law 1631 = .ok (.iadd, 1) := dq_41_l_1230.2.2.2.2.2.1
theorem dL_law_1632 : decode cL_law 1632 = .ok (.iaload, 1) := dq_41_l_1230.2.2.2.2.2.2.1
theorem dL_law_1633 : decode cL_law 1633 = .ok (.aload_n 0, 1) := dq_41_l_1230.2.2.2.2.2.2.2.1
theorem dL_law_1634 : decode cL_law 1634 = .ok (.iload_n 3, 1) := dq_41_l_1230.2.2.2.2.2.2.2.2.1
theorem dL_law_1635 : decode cL_law 1635 = .ok (.iconst 2, 1) := dq_41_l_1230.2.2.2.2.2.2.2.2.2
theorem dq_41_l_1240 : (decode cL_law 1636 = .ok (.iadd, 1)) ∧ (decode cL_law 1637 = .ok (.iaload, 1)) ∧ (decode cL_law 1638 = .ok (.aload_n 0, 1)) ∧ (decode cL_law 1639 = .ok (.iload_n 3, 1)) ∧ (decode cL_law 1640 = .ok (.iconst 3, 1)) ∧ (decode cL_law 1641 = .ok (.iadd, 1)) ∧ (decode cL_law 1642 = .ok (.iaload, 1)) ∧ (decode cL_law 1643 = .ok (.invokevirtual 158, 3)) ∧ (decode cL_law 1646 = .ok (.pop, 1)) ∧ (decode cL_law 1647 = .ok (.aload_n 2, 1)) := by decide +kernel
theorem dL_law_1636 : decode cL_law 1636 = .ok (.iadd, 1) := dq_41_l_1240.1
theorem dL_law_1637 : decode cL_law 1637 = .ok (.iaload, 1) := dq_41_l_1240.2.1
theorem dL_law_1638 : decode cL_law 1638 = .ok (.aload_n 0, 1) := dq_41_l_1240.2.2.1
theorem dL_law_1639 : decode cL_law 1639 = .ok (.iload_n 3, 1) := dq_41_l_1240.2.2.2.1
theorem dL_law_1640 : decode cL_law 1640 = .ok (.iconst 3, 1) := dq_41_l_1240.2.2.2.2.1
theorem dL_law_1641 : decode cL_law 1641 = .ok (.iadd, 1) := dq_41_l_1240.2.2.2.2.2.1
theorem dL_law_1642 : decode cL_law 1642 = .ok (.iaload, 1) := dq_41_l_1240.2.2.2.2.2.2.1
theorem dL_law_1643 : decode cL_law 1643 = .ok (.invokevirtual 158, 3) := dq_41_l_1240.2.2.2.2.2.2.2.1
theorem dL_law_1646 : decode cL_law 1646 = .ok (.pop, 1) := dq_41_l_1240.2.2.2.2.2.2.2.2.1
theorem dL_law_1647 : decode cL_law 1647 = .ok (.aload_n 2, 1) := dq_41_l_1240.2.2.2.2.2.2.2.2.2
theorem dq_41_l_1250 : (decode cL_law 1648 = .ok (.aload_n 0, 1)) ∧ (decode cL_law 1649 = .ok (.iload_n 3, 1)) ∧ (decode cL_law 1650 = .ok (.iconst 1, 1)) ∧ (decode cL_law 1651 = .ok (.iadd, 1)) ∧ (decode cL_law 1652 = .ok (.iaload, 1)) ∧ (decode cL_law 1653 = .ok (.aload_n 0, 1)) ∧ (decode cL_law 1654 = .ok (.iload_n 3, 1)) ∧ (decode cL_law 1655 = .ok (.iconst 2, 1)) ∧ (decode cL_law 1656 = .ok (.iadd, 1)) ∧ (decode cL_law 1657 = .ok (.iaload, 1)) := by decide +kernel
theorem dL_law_1648 : decode cL_law 1648 = .ok (.aload_n 0, 1) := dq_41_l_1250.1
theorem dL_law_1649 : decode cL_law 1649 = .ok (.iload_n 3, 1) := dq_41_l_1250.2.1
theorem dL_law_1650 : decode cL_law 1650 = .ok (.iconst 1, 1) := dq_41_l_1250.2.2.1
theorem dL_law_1651 : decode cL_law 1651 = .ok (.iadd, 1) := dq_41_l_1250.2.2.2.1
theorem dL_law_1652 : decode cL_law 1652 = .ok (.iaload, 1) := dq_41_l_1250.2.2.2.2.1
theorem dL_law_1653 : decode cL_law 1653 = .ok (.aload_n 0, 1) := dq_41_l_1250.2.2.2.2.2.1
theorem dL_law_1654 : decode cL_law 1654 = .ok (.iload_n 3, 1) := dq_41_l_1250.2.2.2.2.2.2.1
theorem dL_law_1655 : decode cL_law 1655 = .ok (.iconst 2, 1) := dq_41_l_1250.2.2.2.2.2.2.2.1
theorem dL_law_1656 : decode cL_law 1656 = .ok (.iadd, 1) := dq_41_l_1250.2.2.2.2.2.2.2.2.1
theorem dL_law_1657 : decode cL_law 1657 = .ok (.iaload, 1) := dq_41_l_1250.2.2.2.2.2.2.2.2.2
theorem dq_41_l_1260 : (decode cL_law 1658 = .ok (.aload_n 0, 1)) ∧ (decode cL_law 1659 = .ok (.iload_n 3, 1)) ∧ (decode cL_law 1660 = .ok (.iconst 3, 1)) ∧ (decode cL_law 1661 = .ok (.iadd, 1)) ∧ (decode cL_law 1662 = .ok (.iaload, 1)) ∧ (decode cL_law 1663 = .ok (.invokevirtual 161, 3)) ∧ (decode cL_law 1666 = .ok (.pop, 1)) ∧ (decode cL_law 1667 = .ok (.goto 211, 3)) ∧ (decode cL_law 1670 = .ok (.aload_n 1, 1)) ∧ (decode cL_law 1671 = .ok (.aload_n 0, 1)) := by decide +kernel
theorem dL_law_1658 : decode cL_law 1658 = .ok (.aload_n 0, 1) := dq_41_l_1260.1
theorem dL_law_1659 : decode cL_law 1659 = .ok (.iload_n 3, 1) := dq_41_l_1260.2.1
theorem dL_law_1660 : decode cL_law 1660 = .ok (.iconst 3, 1) := dq_41_l_1260.2.2.1
theorem dL_law_1661 : decode cL_law 1661 = .ok (.iadd, 1) := dq_41_l_1260.2.2.2.1
theorem dL_law_1662 : decode cL_law 1662 = .ok (.iaload, 1) := dq_41_l_1260.2.2.2.2.1
theorem dL_law_1663 : decode cL_law 1663 = .ok (.invokevirtual 161, 3) := dq_41_l_1260.2.2.2.2.2.1
theorem dL_law_1666 : decode cL_law 1666 = .ok (.pop, 1) := dq_41_l_1260.2.2.2.2.2.2.1
theorem dL_law_1667 : decode cL_law 1667 = .ok (.goto 211, 3) := dq_41_l_1260.2.2.2.2.2.2.2.1
theorem dL_law_1670 : decode cL_law 1670 = .ok (.aload_n 1, 1) := dq_41_l_1260.2.2.2.2.2.2.2.2.1
theorem dL_law_1671 : decode cL_law 1671 = .ok (.aload_n 0, 1) := dq_41_l_1260.2.2.2.2.2.2.2.2.2
theorem dq_41_l_1270 : (decode cL_law 1672 = .ok (.iload_n 3, 1)) ∧ (decode cL_law 1673 = .ok (.iconst 1, 1)) ∧ (decode cL_law 1674 = .ok (.iadd, 1)) ∧ (decode cL_law 1675 = .ok (.iaload, 1)) ∧ (decode cL_law 1676 = .ok (.aload_n 0, 1)) ∧ (decode cL_law 1677 = .ok (.iload_n 3, 1)) ∧ (decode cL_law 1678 = .ok (.iconst 2, 1)) ∧ (decode cL_law 1679 = .ok (.iadd, 1)) ∧ (decode cL_law 1680 = .ok (.iaload, 1)) ∧ (decode cL_law 1681 = .ok (.aload_n 0, 1)) := by decide +kernel
theorem dL_law_1672 : decode cL_law 1672 = .ok (.iload_n 3, 1) := dq_41_l_1270.1
theorem dL_law_1673 : decode cL_law 1673 = .ok (.iconst 1, 1) := dq_41_l_1270.2.1
theorem dL_law_1674 : decode cL_law 1674 = .ok (.iadd, 1) := dq_41_l_1270.2.2.1
theorem dL_law_1675 : decode cL_law 1675 = .ok (.iaload, 1) := dq_41_l_1270.2.2.2.1
theorem dL_law_1676 : decode cL_law 1676 = .ok (.aload_n 0, 1) := dq_41_l_1270.2.2.2.2.1
theorem dL_law_1677 : decode cL_law 1677 = .ok (.iload_n 3, 1) := dq_41_l_1270.2.2.2.2.2.1
theorem dL_law_1678 : decode cL_law 1678 = .ok (.iconst 2, 1) := dq_41_l_1270.2.2.2.2.2.2.1
theorem dL_law_1679 : decode cL_law 1679 = .ok (.iadd, 1) := dq_41_l_1270.2.2.2.2.2.2.2.1
theorem dL_law_1680 : decode cL_law 1680 = .ok (.iaload, 1) := dq_41_l_1270.2.2.2.2.2.2.2.2.1
theorem dL_law_1681 : decode cL_law 1681 = .ok (.aload_n 0, 1) := dq_41_l_1270.2.2.2.2.2.2.2.2.2
theorem dq_41_l_1280 : (decode cL_law 1682 = .ok (.iload_n 3, 1)) ∧ (decode cL_law 1683 = .ok (.iconst 3, 1)) ∧ (decode cL_law 1684 = .ok (.iadd, 1)) ∧ (decode cL_law 1685 = .ok (.iaload, 1)) ∧ (decode cL_law 1686 = .ok (.aload_n 0, 1)) ∧ (decode cL_law 1687 = .ok (.iload_n 3, 1)) ∧ (decode cL_law 1688 = .ok (.iconst 4, 1)) ∧ (decode cL_law 1689 = .ok (.iadd, 1)) ∧ (decode cL_law 1690 = .ok (.iaload, 1)) ∧ (decode cL_law 1691 = .ok (.aload_n 0, 1)) := by decide +kernel
theorem dL_law_1682 : decode cL_law 1682 = .ok (.iload_n 3, 1) := dq_41_l_1280.1
theorem dL_law_1683 : decode cL_law 1683 = .ok (.iconst 3, 1) := dq_41_l_1280.2.1
theorem dL_law_1684 : decode cL_law 1684 = .ok (.iadd, 1) := dq_41_l_1280.2.2.1
theorem dL_law_1685 : decode cL_law 1685 = .ok (.iaload, 1) := dq_41_l_1280.2.2.2.1
theorem dL_law_1686 : decode cL_law 1686 = .ok (.aload_n 0, 1) := dq_41_l_1280.2.2.2.2.1
theorem dL_law_1687 : decode cL_law 1687 = .ok (.iload_n 3, 1) := dq_41_l_1280.2.2.2.2.2.1
theorem dL_law_1688 : decode cL_law 1688 = .ok (.iconst 4, 1) := dq_41_l_1280.2.2.2.2.2.2.1
theorem dL_law_1689 : decode cL_law 1689 = .ok (.iadd, 1) := dq_41_l_1280.2.2.2.2.2.2.2.1
theorem dL_law_1690 : decode cL_law 1690 = .ok (.iaload, 1) := dq_41_l_1280.2.2.2.2.2.2.2.2.1
theorem dL_law_1691 : decode cL_law 1691 = .ok (.aload_n 0, 1) := dq_41_l_1280.2.2.2.2.2.2.2.2.2
theorem dq_41_l_1290 : (decode cL_law 1692 = .ok (.iload_n 3, 1)) ∧ (decode cL_law 1693 = .ok (.iconst 5, 1)) ∧ (decode cL_law 1694 = .ok (.iadd, 1)) ∧ (decode cL_law 1695 = .ok (.iaload, 1)) ∧ (decode cL_law 1696 = .ok (.invokevirtual 162, 3)) ∧ (decode cL_law 1699 = .ok (.pop2, 1)) ∧ (decode cL_law 1700 = .ok (.aload_n 2, 1)) ∧ (decode cL_law 1701 = .ok (.aload_n 0, 1)) ∧ (decode cL_law 1702 = .ok (.iload_n 3, 1)) ∧ (decode cL_law 1703 = .ok (.iconst 1, 1)) := by decide +kernel
theorem dL_law_1692 : decode cL_law 1692 = .ok (.iload_n 3, 1) := dq_41_l_1290.1
theorem dL_law_1693 : decode cL_law 1693 = .ok (.iconst 5, 1) := dq_41_l_1290.2.1
theorem dL_law_1694 : decode cL_law 1694 = .ok (.iadd, 1) := dq_41_l_1290.2.2.1
theorem dL_law_1695 : decode cL_law 1695 = .ok (.iaload, 1) := dq_41_l_1290.2.2.2.1
theorem dL_law_1696 : decode cL_law 1696 = .ok (.invokevirtual 162, 3) := dq_41_l_1290.2.2.2.2.1
theorem dL_law_1699 : decode cL_law 1699 = .ok (.pop2, 1) := dq_41_l_1290.2.2.2.2.2.1
theorem dL_law_1700 : decode cL_law 1700 = .ok (.aload_n 2, 1) := dq_41_l_1290.2.2.2.2.2.2.1
theorem dL_law_1701 : decode cL_law 1701 = .ok (.aload_n 0, 1) := dq_41_l_1290.2.2.2.2.2.2.2.1
theorem dL_law_1702 : decode cL_law 1702 = .ok (.iload_n 3, 1) := dq_41_l_1290.2.2.2.2.2.2.2.2.1
theorem dL_law_1703 : decode cL_law 1703 = .ok (.iconst 1, 1) := dq_41_l_1290.2.2.2.2.2.2.2.2.2
theorem dq_41_l_1300 : (decode cL_law 1704 = .ok (.iadd, 1)) ∧ (decode cL_law 1705 = .ok (.iaload, 1)) ∧ (decode cL_law 1706 = .ok (.aload_n 0, 1)) ∧ (decode cL_law 1707 = .ok (.iload_n 3, 1)) ∧ (decode cL_law 1708 = .ok (.iconst 2, 1)) ∧ (decode cL_law 1709 = .ok (.iadd, 1)) ∧ (decode cL_law 1710 = .ok (.iaload, 1)) ∧ (decode cL_law 1711 = .ok (.aload_n 0, 1)) ∧ (decode cL_law 1712 = .ok (.iload_n 3, 1)) ∧ (decode cL_law 1713 = .ok (.iconst 3, 1)) := by decide +kernel
theorem dL_law_1704 : decode cL_law 1704 = .ok (.iadd, 1) := dq_41_l_1300.1
theorem dL_law_1705 : decode cL_law 1705 = .ok (.iaload, 1) := dq_41_l_1300.2.1
theorem dL_law_1706 : decode cL_law 1706 = .ok (.aload_n 0, 1) := dq_41_l_1300.2.2.1
theorem dL_law_1707 : decode cL_law 1707 = .ok (.iload_n 3, 1) := dq_41_l_1300.2.2.2.1
theorem dL_law_1708 : decode cL_law 1708 = .ok (.iconst 2, 1) := dq_41_l_1300.2.2.2.2.1
theorem dL_law_1709 : decode cL_law 1709 = .ok (.iadd, 1) := dq_41_l_1300.2.2.2.2.2.1
theorem dL_law_1710 : decode cL_law 1710 = .ok (.iaload, 1) := dq_41_l_1300.2.2.2.2.2.2.1
theorem dL_law_1711 : decode cL_law 1711 = .ok (.aload_n 0, 1) := dq_41_l_1300.2.2.2.2.2.2.2.1
theorem dL_law_1712 : decode cL_law 1712 = .ok (.iload_n 3, 1) := dq_41_l_1300.2.2.2.2.2.2.2.2.1
theorem dL_law_1713 : decode cL_law 1713 = .ok (.iconst 3, 1) := dq_41_l_1300.2.2.2.2.2.2.2.2.2
theorem dq_41_l_1310 : (decode cL_law 1714 = .ok (.iadd, 1)) ∧ (decode cL_law 1715 = .ok (.iaload, 1)) ∧ (decode cL_law 1716 = .ok (.aload_n 0, 1)) ∧ (decode cL_law 1717 = .ok (.iload_n 3, 1)) ∧ (decode cL_law 1718 = .ok (.iconst 4, 1)) ∧ (decode cL_law 1719 = .ok (.iadd, 1)) ∧ (decode cL_law 1720 = .ok (.iaload, 1)) ∧ (decode cL_law 1721 = .ok (.aload_n 0, 1)) ∧ (decode cL_law 1722 = .ok (.iload_n 3, 1)) ∧ (decode cL_law 1723 = .ok (.iconst 5, 1)) := by decide +kernel
theorem dL_law_1714 : decode cL_law 1714 = .ok (.iadd, 1) := dq_41_l_1310.1
theorem dL_law_1715 : decode cL_law 1715 = .ok (.iaload, 1) := dq_41_l_1310.2.1
theorem dL_law_1716 : decode cL_law 1716 = .ok (.aload_n 0, 1) := dq_41_l_1310.2.2.1
theorem dL_law_1717 : decode cL_law 1717 = .ok (.iload_n 3, 1) := dq_41_l_1310.2.2.2.1
theorem dL_law_1718 : decode cL_law 1718 = .ok (.iconst 4, 1) := dq_41_l_1310.2.2.2.2.1
theorem dL_law_1719 : decode cL_law 1719 = .ok (.iadd, 1) := dq_41_l_1310.2.2.2.2.2.1
theorem dL_law_1720 : decode cL_law 1720 = .ok (.iaload, 1) := dq_41_l_1310.2.2.2.2.2.2.1
theorem dL_law_1721 : decode cL_law 1721 = .ok (.aload_n 0, 1) := dq_41_l_1310.2.2.2.2.2.2.2.1
theorem dL_law_1722 : decode cL_law 1722 = .ok (.iload_n 3, 1) := dq_41_l_1310.2.2.2.2.2.2.2.2.1
theorem dL_law_1723 : decode cL_law 1723 = .ok (.iconst 5, 1) := dq_41_l_1310.2.2.2.2.2.2.2.2.2
theorem dq_41_l_1320 : (decode cL_law 1724 = .ok (.iadd, 1)) ∧ (decode cL_law 1725 = .ok (.iaload, 1)) ∧ (decode cL_law 1726 = .ok (.invokevirtual 166, 3)) ∧ (decode cL_law 1729 = .ok (.pop2, 1)) ∧ (decode cL_law 1730 = .ok (.goto 148, 3)) ∧ (decode cL_law 1733 = .ok (.aload_n 1, 1)) ∧ (decode cL_law 1734 = .ok (.aload_n 0, 1)) ∧ (decode cL_law 1735 = .ok (.iload_n 3, 1)) ∧ (decode cL_law 1736 = .ok (.iconst 1, 1)) ∧ (decode cL_law 1737 = .ok (.iadd, 1)) := by decide +kernel
theorem dL_law_1724 : decode cL_law 1724 = .ok (.iadd, 1) := dq_41_l_1320.1
theorem dL_law_1725 : decode cL_law 1725 = .ok (.iaload, 1) := dq_41_l_1320.2.1
theorem dL_law_1726 : decode cL_law 1726 = .ok (.invokevirtual 166, 3) := dq_41_l_1320.2.2.1
theorem dL_law_1729 : decode cL_law 1729 = .ok (.pop2, 1) := dq_41_l_1320.2.2.2.1
theorem dL_law_1730 : decode cL_law 1730 = .ok (.goto 148, 3) := dq_41_l_1320.2.2.2.2.1
theorem dL_law_1733 : decode cL_law 1733 = .ok (.aload_n 1, 1) := dq_41_l_1320.2.2.2.2.2.1
theorem dL_law_1734 : decode cL_law 1734 = .ok (.aload_n 0, 1) := dq_41_l_1320.2.2.2.2.2.2.1
theorem dL_law_1735 : decode cL_law 1735 = .ok (.iload_n 3, 1) := dq_41_l_1320.2.2.2.2.2.2.2.1
theorem dL_law_1736 : decode cL_law 1736 = .ok (.iconst 1, 1) := dq_41_l_1320.2.2.2.2.2.2.2.2.1
theorem dL_law_1737 : decode cL_law 1737 = .ok (.iadd, 1) := dq_41_l_1320.2.2.2.2.2.2.2.2.2
theorem dq_41_l_1330 : (decode cL_law 1738 = .ok (.iaload, 1)) ∧ (decode cL_law 1739 = .ok (.aload_n 0, 1)) ∧ (decode cL_law 1740 = .ok (.iload_n 3, 1)) ∧ (decode cL_law 1741 = .ok (.iconst 2, 1)) ∧ (decode cL_law 1742 = .ok (.iadd, 1)) ∧ (decode cL_law 1743 = .ok (.iaload, 1)) ∧ (decode cL_law 1744 = .ok (.aload_n 0, 1)) ∧ (decode cL_law 1745 = .ok (.iload_n 3, 1)) ∧ (decode cL_law 1746 = .ok (.iconst 3, 1)) ∧ (decode cL_law 1747 = .ok (.iadd, 1)) := by decide +kernel
theorem dL_law_1738 : decode cL_law 1738 = .ok (.iaload, 1) := dq_41_l_1330.1
theorem dL_law_1739 : decode cL_law 1739 = .ok (.aload_n 0, 1) := dq_41_l_1330.2.1
theorem dL_law_1740 : decode cL_law 1740 = .ok (.iload_n 3, 1) := dq_41_l_1330.2.2.1
theorem dL_law_1741 : decode cL_law 1741 = .ok (.iconst 2, 1) := dq_41_l_1330.2.2.2.1
theorem dL_law_1742 : decode cL_law 1742 = .ok (.iadd, 1) := dq_41_l_1330.2.2.2.2.1
theorem dL_law_1743 : decode cL_law 1743 = .ok (.iaload, 1) := dq_41_l_1330.2.2.2.2.2.1
theorem dL_law_1744 : decode cL_law 1744 = .ok (.aload_n 0, 1) := dq_41_l_1330.2.2.2.2.2.2.1
theorem dL_law_1745 : decode cL_law 1745 = .ok (.iload_n 3, 1) := dq_41_l_1330.2.2.2.2.2.2.2.1
theorem dL_law_1746 : decode cL_law 1746 = .ok (.iconst 3, 1) := dq_41_l_1330.2.2.2.2.2.2.2.2.1
theorem dL_law_1747 : decode cL_law 1747 = .ok (.iadd, 1) := dq_41_l_1330.2.2.2.2.2.2.2.2.2
theorem dq_41_l_1340 : (decode cL_law 1748 = .ok (.iaload, 1)) ∧ (decode cL_law 1749 = .ok (.invokevirtual 167, 3)) ∧ (decode cL_law 1752 = .ok (.pop, 1)) ∧ (decode cL_law 1753 = .ok (.aload_n 2, 1)) ∧ (decode cL_law 1754 = .ok (.aload_n 0, 1)) ∧ (decode cL_law 1755 = .ok (.iload_n 3, 1)) ∧ (decode cL_law 1756 = .ok (.iconst 1, 1)) ∧ (decode cL_law 1757 = .ok (.iadd, 1)) ∧ (decode cL_law 1758 = .ok (.iaload, 1)) ∧ (decode cL_law 1759 = .ok (.aload_n 0, 1)) := by decide +kernel
theorem dL_law_1748 : decode cL_law 1748 = .ok (.iaload, 1) := dq_41_l_1340.1
theorem dL_law_1749 : decode cL_law 1749 = .ok (.invokevirtual 167, 3) := dq_41_l_1340.2.1
theorem dL_law_1752 : decode cL_law 1752 = .ok (.pop, 1) := dq_41_l_1340.2.2.1
theorem dL_law_1753 : decode cL_law 1753 = .ok (.aload_n 2, 1) := dq_41_l_1340.2.2.2.1
theorem dL_law_1754 : decode cL_law 1754 = .ok (.aload_n 0, 1) := dq_41_l_1340.2.2.2.2.1
theorem dL_law_1755 : decode cL_law 1755 = .ok (.iload_n 3, 1) := dq_41_l_1340.2.2.2.2.2.1
theorem dL_law_1756 : decode cL_law 1756 = .ok (.iconst 1, 1) := dq_41_l_1340.2.2.2.2.2.2.1
theorem dL_law_1757 : decode cL_law 1757 = .ok (.iadd, 1) := dq_41_l_1340.2.2.2.2.2.2.2.1
theorem dL_law_1758 : decode cL_law 1758 = .ok (.iaload, 1) := dq_41_l_1340.2.2.2.2.2.2.2.2.1
theorem dL_law_1759 : decode cL_law 1759 = .ok (.aload_n 0, 1) := dq_41_l_1340.2.2.2.2.2.2.2.2.2
theorem dq_41_l_1350 : (decode cL_law 1760 = .ok (.iload_n 3, 1)) ∧ (decode cL_law 1761 = .ok (.iconst 2, 1)) ∧ (decode cL_law 1762 = .ok (.iadd, 1)) ∧ (decode cL_law 1763 = .ok (.iaload, 1)) ∧ (decode cL_law 1764 = .ok (.aload_n 0, 1)) ∧ (decode cL_law 1765 = .ok (.iload_n 3, 1)) ∧ (decode cL_law 1766 = .ok (.iconst 3, 1)) ∧ (decode cL_law 1767 = .ok (.iadd, 1)) ∧ (decode cL_law 1768 = .ok (.iaload, 1)) ∧ (decode cL_law 1769 = .ok (.invokevirtual 170, 3)) := by decide +kernel
theorem dL_law_1760 : decode cL_law 1760 = .ok (.iload_n 3, 1) := dq_41_l_1350.1
theorem dL_law_1761 : decode cL_law 1761 = .ok (.iconst 2, 1) := dq_41_l_1350.2.1
theorem dL_law_1762 : decode cL_law 1762 = .ok (.iadd, 1) := dq_41_l_1350.2.2.1
theorem dL_law_1763 : decode cL_law 1763 = .ok (.iaload, 1) := dq_41_l_1350.2.2.2.1
theorem dL_law_1764 : decode cL_law 1764 = .ok (.aload_n 0, 1) := dq_41_l_1350.2.2.2.2.1
theorem dL_law_1765 : decode cL_law 1765 = .ok (.iload_n 3, 1) := dq_41_l_1350.2.2.2.2.2.1
theorem dL_law_1766 : decode cL_law 1766 = .ok (.iconst 3, 1) := dq_41_l_1350.2.2.2.2.2.2.1
theorem dL_law_1767 : decode cL_law 1767 = .ok (.iadd, 1) := dq_41_l_1350.2.2.2.2.2.2.2.1
theorem dL_law_1768 : decode cL_law 1768 = .ok (.iaload, 1) := dq_41_l_1350.2.2.2.2.2.2.2.2.1
theorem dL_law_1769 : decode cL_law 1769 = .ok (.invokevirtual 170, 3) := dq_41_l_1350.2.2.2.2.2.2.2.2.2
theorem dq_41_l_1360 : (decode cL_law 1772 = .ok (.pop, 1)) ∧ (decode cL_law 1773 = .ok (.goto 105, 3)) ∧ (decode cL_law 1776 = .ok (.aload_n 1, 1)) ∧ (decode cL_law 1777 = .ok (.aload_n 0, 1)) ∧ (decode cL_law 1778 = .ok (.iload_n 3, 1)) ∧ (decode cL_law 1779 = .ok (.iconst 1, 1)) ∧ (decode cL_law 1780 = .ok (.iadd, 1)) ∧ (decode cL_law 1781 = .ok (.iaload, 1)) ∧ (decode cL_law 1782 = .ok (.aload_n 0, 1)) ∧ (decode cL_law 1783 = .ok (.iload_n 3, 1)) := by decide +kernel
theorem dL_law_1772 : decode cL_law 1772 = .ok (.pop, 1) := dq_41_l_1360.1
theorem dL_law_1773 : decode cL_law 1773 = .ok (.goto 105, 3) := dq_41_l_1360.2.1
theorem dL_law_1776 : decode cL_law 1776 = .ok (.aload_n 1, 1) := dq_41_l_1360.2.2.1
theorem dL_law_1777 : decode cL_law 1777 = .ok (.aload_n 0, 1) := dq_41_l_1360.2.2.2.1
theorem dL_law_1778 : decode cL_law 1778 = .ok (.iload_n 3, 1) := dq_41_l_1360.2.2.2.2.1
theorem dL_law_1779 : decode cL_law 1779 = .ok (.iconst 1, 1) := dq_41_l_1360.2.2.2.2.2.1
theorem dL_law_1780 : decode cL_law 1780 = .ok (.iadd, 1) := dq_41_l_1360.2.2.2.2.2.2.1
theorem dL_law_1781 : decode cL_law 1781 = .ok (.iaload, 1) := dq_41_l_1360.2.2.2.2.2.2.2.1
theorem dL_law_1782 : decode cL_law 1782 = .ok (.aload_n 0, 1) := dq_41_l_1360.2.2.2.2.2.2.2.2.1
theorem dL_law_1783 : decode cL_law 1783 = .ok (.iload_n 3, 1) := dq_41_l_1360.2.2.2.2.2.2.2.2.2
theorem dq_41_l_1370 : (decode cL_law 1784 = .ok (.iconst 2, 1)) ∧ (decode cL_law 1785 = .ok (.iadd, 1)) ∧ (decode cL_law 1786 = .ok (.iaload, 1)) ∧ (decode cL_law 1787 = .ok (.invokevirtual 171, 3)) ∧ (decode cL_law 1790 = .ok (.aload_n 2, 1)) ∧ (decode cL_law 1791 = .ok (.aload_n 0, 1)) ∧ (decode cL_law 1792 = .ok (.iload_n 3, 1)) ∧ (decode cL_law 1793 = .ok (.iconst 1, 1)) ∧ (decode cL_law 1794 = .ok (.iadd, 1)) ∧ (decode cL_law 1795 = .ok (.iaload, 1)) := by decide +kernel
theorem dL_law_1784 : decode cL_law 1784 = .ok (.iconst 2, 1) := dq_41_l_1370.1
theorem dL_law_1785 : decode cL_law 1785 = .ok (.iadd, 1) := dq_41_l_1370.2.1
theorem dL_law_1786 : decode cL_law 1786 = .ok (.iaload, 1) := dq_41_l_1370.2.2.1
theorem dL_law_1787 : decode cL_law 1787 = .ok (.invokevirtual 171, 3) := dq_41_l_1370.2.2.2.1
theorem dL_law_1790 : decode cL_law 1790 = .ok (.aload_n 2, 1) := dq_41_l_1370.2.2.2.2.1
theorem dL_law_1791 : decode cL_law 1791 = .ok (.aload_n 0, 1) := dq_41_l_1370.2.2.2.2.2.1
theorem dL_law_1792 : decode cL_law 1792 = .ok (.iload_n 3, 1) := dq_41_l_1370.2.2.2.2.2.2.1
theorem dL_law_1793 : decode cL_law 1793 = .ok (.iconst 1, 1) := dq_41_l_1370.2.2.2.2.2.2.2.1
theorem dL_law_1794 : decode cL_law 1794 = .ok (.iadd, 1) := dq_41_l_1370.2.2.2.2.2.2.2.2.1
theorem dL_law_1795 : decode cL_law 1795 = .ok (.iaload, 1) := dq_41_l_1370.2.2.2.2.2.2.2.2.2
theorem dq_41_l_1380 : (decode cL_law 1796 = .ok (.aload_n 0, 1)) ∧ (decode cL_law 1797 = .ok (.iload_n 3, 1)) ∧ (decode cL_law 1798 = .ok (.iconst 2, 1)) ∧ (decode cL_law 1799 = .ok (.iadd, 1)) ∧ (decode cL_law 1800 = .ok (.iaload, 1)) ∧ (decode cL_law 1801 = .ok (.invokevirtual 174, 3)) ∧ (decode cL_law 1804 = .ok (.if_icmp .eq 74, 3)) ∧ (decode cL_law 1809 = .ok (.aload_n 1, 1)) ∧ (decode cL_law 1810 = .ok (.aload_n 0, 1)) ∧ (decode cL_law 1811 = .ok (.iload_n 3, 1)) := by decide +kernel
theorem dL_law_1796 : decode cL_law 1796 = .ok (.aload_n 0, 1) := dq_41_l_1380.1
theorem dL_law_1797 : decode cL_law 1797 = .ok (.iload_n 3, 1) := dq_41_l_1380.2.1
theorem dL_law_1798 : decode cL_law 1798 = .ok (.iconst 2, 1) := dq_41_l_1380.2.2.1
theorem dL_law_1799 : decode cL_law 1799 = .ok (.iadd, 1) := dq_41_l_1380.2.2.2.1
theorem dL_law_1800 : decode cL_law 1800 = .ok (.iaload, 1) := dq_41_l_1380.2.2.2.2.1
theorem dL_law_1801 : decode cL_law 1801 = .ok (.invokevirtual 174, 3) := dq_41_l_1380.2.2.2.2.2.1
theorem dL_law_1804 : decode cL_law 1804 = .ok (.if_icmp .eq 74, 3) := dq_41_l_1380.2.2.2.2.2.2.1
theorem dL_law_1809 : decode cL_law 1809 = .ok (.aload_n 1, 1) := dq_41_l_1380.2.2.2.2.2.2.2.1
theorem dL_law_1810 : decode cL_law 1810 = .ok (.aload_n 0, 1) := dq_41_l_1380.2.2.2.2.2.2.2.2.1
theorem dL_law_1811 : decode cL_law 1811 = .ok (.iload_n 3, 1) := dq_41_l_1380.2.2.2.2.2.2.2.2.2
theorem dq_41_l_1390 : (decode cL_law 1812 = .ok (.iconst 1, 1)) ∧ (decode cL_law 1813 = .ok (.iadd, 1)) ∧ (decode cL_law 1814 = .ok (.iaload, 1)) ∧ (decode cL_law 1815 = .ok (.invokevirtual 175, 3)) ∧ (decode cL_law 1818 = .ok (.pop, 1)) ∧ (decode cL_law 1819 = .ok (.aload_n 2, 1)) ∧ (decode cL_law 1820 = .ok (.aload_n 0, 1)) ∧ (decode cL_law 1821 = .ok (.iload_n 3, 1)) ∧ (decode cL_law 1822 = .ok (.iconst 1, 1)) ∧ (decode cL_law 1823 = .ok (.iadd, 1)) := by decide +kernel
theorem dL_law_1812 : decode cL_law 1812 = .ok (.iconst 1, 1) := dq_41_l_1390.1
theorem dL_law_1813 : decode cL_law 1813 = .ok (.iadd, 1) := dq_41_l_1390.2.1
theorem dL_law_1814 : decode cL_law 1814 = .ok (.iaload, 1) := dq_41_l_1390.2.2.1
theorem dL_law_1815 : decode cL_law 1815 = .ok (.invokevirtual 175, 3) := dq_41_l_1390.2.2.2.1
theorem dL_law_1818 : decode cL_law 1818 = .ok (.pop, 1) := dq_41_l_1390.2.2.2.2.1
theorem dL_law_1819 : decode cL_law 1819 = .ok (.aload_n 2, 1) := dq_41_l_1390.2.2.2.2.2.1
theorem dL_law_1820 : decode cL_law 1820 = .ok (.aload_n 0, 1) := dq_41_l_1390.2.2.2.2.2.2.1
theorem dL_law_1821 : decode cL_law 1821 = .ok (.iload_n 3, 1) := dq_41_l_1390.2.2.2.2.2.2.2.1
theorem dL_law_1822 : decode cL_law 1822 = .ok (.iconst 1, 1) := dq_41_l_1390.2.2.2.2.2.2.2.2.1
theorem dL_law_1823 : decode cL_law 1823 = .ok (.iadd, 1) := dq_41_l_1390.2.2.2.2.2.2.2.2.2
theorem dq_41_l_1400 : (decode cL_law 1824 = .ok (.iaload, 1)) ∧ (decode cL_law 1825 = .ok (.invokevirtual 178, 3)) ∧ (decode cL_law 1828 = .ok (.pop, 1)) ∧ (decode cL_law 1829 = .ok (.goto 49, 3)) ∧ (decode cL_law 1832 = .ok (.aload_n 1, 1)) ∧ (decode cL_law 1833 = .ok (.aload_n 0, 1)) ∧ (decode cL_law 1834 = .ok (.iload_n 3, 1)) ∧ (decode cL_law 1835 = .ok (.iconst 1, 1)) ∧ (decode cL_law 1836 = .ok (.iadd, 1)) ∧ (decode cL_law 1837 = .ok (.iaload, 1)) := by decide +kernel
theorem dL_law_1824 : decode cL_law 1824 = .ok (.iaload, 1) := dq_41_l_1400.1
theorem dL_law_1825 : decode cL_law 1825 = .ok (.invokevirtual 178, 3) := dq_41_l_1400.2.1
theorem dL_law_1828 : decode cL_law 1828 = .ok (.pop, 1) := dq_41_l_1400.2.2.1
theorem dL_law_1829 : decode cL_law 1829 = .ok (.goto 49, 3) := dq_41_l_1400.2.2.2.1
theorem dL_law_1832 : decode cL_law 1832 = .ok (.aload_n 1, 1) := dq_41_l_1400.2.2.2.2.1
theorem dL_law_1833 : decode cL_law 1833 = .ok (.aload_n 0, 1) := dq_41_l_1400.2.2.2.2.2.1
theorem dL_law_1834 : decode cL_law 1834 = .ok (.iload_n 3, 1) := dq_41_l_1400.2.2.2.2.2.2.1
theorem dL_law_1835 : decode cL_law 1835 = .ok (.iconst 1, 1) := dq_41_l_1400.2.2.2.2.2.2.2.1
theorem dL_law_1836 : decode cL_law 1836 = .ok (.iadd, 1) := dq_41_l_1400.2.2.2.2.2.2.2.2.1
theorem dL_law_1837 : decode cL_law 1837 = .ok (.iaload, 1) := dq_41_l_1400.2.2.2.2.2.2.2.2.2
theorem dq_41_l_1410 : (decode cL_law 1838 = .ok (.invokevirtual 179, 3)) ∧ (decode cL_law 1841 = .ok (.pop, 1)) ∧ (decode cL_law 1842 = .ok (.aload_n 2, 1)) ∧ (decode cL_law 1843 = .ok (.aload_n 0, 1)) ∧ (decode cL_law 1844 = .ok (.iload_n 3, 1)) ∧ (decode cL_law 1845 = .ok (.iconst 1, 1)) ∧ (decode cL_law 1846 = .ok (.iadd, 1)) ∧ (decode cL_law 1847 = .ok (.iaload, 1)) ∧ (decode cL_law 1848 = .ok (.invokevirtual 182, 3)) ∧ (decode cL_law 1851 = .ok (.pop, 1)) := by decide +kernel
theorem dL_law_1838 : decode cL_law 1838 = .ok (.invokevirtual 179, 3) := dq_41_l_1410.1
theorem dL_law_1841 : decode cL_law 1841 = .ok (.pop, 1) := dq_41_l_1410.2.1
theorem dL_law_1842 : decode cL_law 1842 = .ok (.aload_n 2, 1) := dq_41_l_1410.2.2.1
theorem dL_law_1843 : decode cL_law 1843 = .ok (.aload_n 0, 1) := dq_41_l_1410.2.2.2.1
theorem dL_law_1844 : decode cL_law 1844 = .ok (.iload_n 3, 1) := dq_41_l_1410.2.2.2.2.1
theorem dL_law_1845 : decode cL_law 1845 = .ok (.iconst 1, 1) := dq_41_l_1410.2.2.2.2.2.1
theorem dL_law_1846 : decode cL_law 1846 = .ok (.iadd, 1) := dq_41_l_1410.2.2.2.2.2.2.1
theorem dL_law_1847 : decode cL_law 1847 = .ok (.iaload, 1) := dq_41_l_1410.2.2.2.2.2.2.2.1
theorem dL_law_1848 : decode cL_law 1848 = .ok (.invokevirtual 182, 3) := dq_41_l_1410.2.2.2.2.2.2.2.2.1
theorem dL_law_1851 : decode cL_law 1851 = .ok (.pop, 1) := dq_41_l_1410.2.2.2.2.2.2.2.2.2
theorem dq_41_l_1420 : (decode cL_law 1852 = .ok (.goto 26, 3)) ∧ (decode cL_law 1855 = .ok (.aload_n 1, 1)) ∧ (decode cL_law 1856 = .ok (.aload_n 0, 1)) ∧ (decode cL_law 1857 = .ok (.iload_n 3, 1)) ∧ (decode cL_law 1858 = .ok (.iconst 1, 1)) ∧ (decode cL_law 1859 = .ok (.iadd, 1)) ∧ (decode cL_law 1860 = .ok (.iaload, 1)) ∧ (decode cL_law 1861 = .ok (.invokevirtual 183, 3)) ∧ (decode cL_law 1864 = .ok (.pop, 1)) ∧ (decode cL_law 1865 = .ok (.aload_n 2, 1)) := by decide +kernel
theorem dL_law_1852 : decode cL_law 1852 = .ok (.goto 26, 3) := dq_41_l_1420.1
theorem dL_law_1855 : decode cL_law 1855 = .ok (.aload_n 1, 1) := dq_41_l_1420.2.1
theorem dL_law_1856 : decode cL_law 1856 = .ok (.aload_n 0, 1) := dq_41_l_1420.2.2.1
theorem dL_law_1857 : decode cL_law 1857 = .ok (.iload_n 3, 1) := dq_41_l_1420.2.2.2.1
theorem dL_law_1858 : decode cL_law 1858 = .ok (.iconst 1, 1) := dq_41_l_1420.2.2.2.2.1
theorem dL_law_1859 : decode cL_law 1859 = .ok (.iadd, 1) := dq_41_l_1420.2.2.2.2.2.1
theorem dL_law_1860 : decode cL_law 1860 = .ok (.iaload, 1) := dq_41_l_1420.2.2.2.2.2.2.1
theorem dL_law_1861 : decode cL_law 1861 = .ok (.invokevirtual 183, 3) := dq_41_l_1420.2.2.2.2.2.2.2.1
theorem dL_law_1864 : decode cL_law 1864 = .ok (.pop, 1) := dq_41_l_1420.2.2.2.2.2.2.2.2.1
theorem dL_law_1865 : decode cL_law 1865 = .ok (.aload_n 2, 1) := dq_41_l_1420.2.2.2.2.2.2.2.2.2
theorem dq_41_l_1430 : (decode cL_law 1866 = .ok (.aload_n 0, 1)) ∧ (decode cL_law 1867 = .ok (.iload_n 3, 1)) ∧ (decode cL_law 1868 = .ok (.iconst 1, 1)) ∧ (decode cL_law 1869 = .ok (.iadd, 1)) ∧ (decode cL_law 1870 = .ok (.iaload, 1)) ∧ (decode cL_law 1871 = .ok (.invokevirtual 186, 3)) ∧ (decode cL_law 1874 = .ok (.pop, 1)) ∧ (decode cL_law 1875 = .ok (.goto 3, 3)) ∧ (decode cL_law 1878 = .ok (.iinc 3 7, 3)) ∧ (decode cL_law 1881 = .ok (.goto (-1863), 3)) := by decide +kernel
theorem dL_law_1866 : decode cL_law 1866 = .ok (.aload_n 0, 1) := dq_41_l_1430.1
theorem dL_law_1867 : decode cL_law 1867 = .ok (.iload_n 3, 1) := dq_41_l_1430.2.1
theorem dL_law_1868 : decode cL_law 1868 = .ok (.iconst 1, 1) := dq_41_l_1430.2.2.1
theorem dL_law_1869 : decode cL_law 1869 = .ok (.iadd, 1) := dq_41_l_1430.2.2.2.1
theorem dL_law_1870 : decode cL_law 1870 = .ok (.iaload, 1) := dq_41_l_1430.2.2.2.2.1
theorem dL_law_1871 : decode cL_law 1871 = .ok (.invokevirtual 186, 3) := dq_41_l_1430.2.2.2.2.2.1
theorem dL_law_1874 : decode cL_law 1874 = .ok (.pop, 1) := dq_41_l_1430.2.2.2.2.2.2.1
theorem dL_law_1875 : decode cL_law 1875 = .ok (.goto 3, 3) := dq_41_l_1430.2.2.2.2.2.2.2.1
theorem dL_law_1878 : decode cL_law 1878 = .ok (.iinc 3 7, 3) := dq_41_l_1430.2.2.2.2.2.2.2.2.1
theorem dL_law_1881 : decode cL_law 1881 = .ok (.goto (-1863), 3) := dq_41_l_1430.2.2.2.2.2.2.2.2.2
theorem dq_41_l_1440 : (decode cL_law 1884 = .ok (.iconst 1, 1)) ∧ (decode cL_law 1885 = .ok (.ireturn, 1)) := by decide +kernel
theorem dL_law_1884 : decode cL_law 1884 = .ok (.iconst 1, 1) := dq_41_l_1440.1
theorem dL_law_1885 : decode cL_law 1885 = .ok (.ireturn, 1) := dq_41_l_1440.2
