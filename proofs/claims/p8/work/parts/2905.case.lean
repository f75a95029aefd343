theorem dL_law_1206 : decode cL_law 1206 = .ok (.aload_n 1, 1) := dc1_43 (by decide +kernel)
theorem dL_law_1207 : decode cL_law 1207 = .ok (.aload_n 0, 1) := dc1_42 (by decide +kernel)
theorem dL_law_1208 : decode cL_law 1208 = .ok (.iload_n 3, 1) := dc1_29 (by decide +kernel)
theorem dL_law_1209 : decode cL_law 1209 = .ok (.iconst 1, 1) := dc1_4 (by decide +kernel)
theorem dL_law_1210 : decode cL_law 1210 = .ok (.iadd, 1) := dc1_96 (by decide +kernel)
theorem dL_law_1211 : decode cL_law 1211 = .ok (.iaload, 1) := dc1_46 (by decide +kernel)
theorem dL_law_1212 : decode cL_law 1212 = .ok (.aload_n 0, 1) := dc1_42 (by decide +kernel)
theorem dL_law_1213 : decode cL_law 1213 = .ok (.iload_n 3, 1) := dc1_29 (by decide +kernel)
theorem dL_law_1214 : decode cL_law 1214 = .ok (.iconst 2, 1) := dc1_5 (by decide +kernel)
theorem dL_law_1215 : decode cL_law 1215 = .ok (.iadd, 1) := dc1_96 (by decide +kernel)
theorem dL_law_1216 : decode cL_law 1216 = .ok (.iaload, 1) := dc1_46 (by decide +kernel)
theorem dL_law_1217 : decode cL_law 1217 = .ok (.invokevirtual 173, 3) := dcw_182 (by decide +kernel)
theorem dL_law_1220 : decode cL_law 1220 = .ok (.pop, 1) := dc1_87 (by decide +kernel)
theorem dL_law_1221 : decode cL_law 1221 = .ok (.aload_n 2, 1) := dc1_44 (by decide +kernel)
theorem dL_law_1222 : decode cL_law 1222 = .ok (.aload_n 0, 1) := dc1_42 (by decide +kernel)
theorem dL_law_1223 : decode cL_law 1223 = .ok (.iload_n 3, 1) := dc1_29 (by decide +kernel)
theorem dL_law_1224 : decode cL_law 1224 = .ok (.iconst 1, 1) := dc1_4 (by decide +kernel)
theorem dL_law_1225 : decode cL_law 1225 = .ok (.iadd, 1) := dc1_96 (by decide +kernel)
theorem dL_law_1226 : decode cL_law 1226 = .ok (.iaload, 1) := dc1_46 (by decide +kernel)
theorem dL_law_1227 : decode cL_law 1227 = .ok (.aload_n 0, 1) := dc1_42 (by decide +kernel)
theorem dL_law_1228 : decode cL_law 1228 = .ok (.iload_n 3, 1) := dc1_29 (by decide +kernel)
theorem dL_law_1229 : decode cL_law 1229 = .ok (.iconst 2, 1) := dc1_5 (by decide +kernel)
theorem dL_law_1230 : decode cL_law 1230 = .ok (.iadd, 1) := dc1_96 (by decide +kernel)
theorem dL_law_1231 : decode cL_law 1231 = .ok (.iaload, 1) := dc1_46 (by decide +kernel)
theorem dL_law_1232 : decode cL_law 1232 = .ok (.invokevirtual 176, 3) := dcw_182 (by decide +kernel)
theorem dL_law_1235 : decode cL_law 1235 = .ok (.pop, 1) := dc1_87 (by decide +kernel)
theorem dL_law_1236 : decode cL_law 1236 = .ok (.goto 253, 3) := dcs_167 (n := 253) (by decide +kernel)
theorem dL_law_1239 : decode cL_law 1239 = .ok (.aload_n 1, 1) := dc1_43 (by decide +kernel)
theorem dL_law_1240 : decode cL_law 1240 = .ok (.aload_n 0, 1) := dc1_42 (by decide +kernel)
theorem dL_law_1241 : decode cL_law 1241 = .ok (.iload_n 3, 1) := dc1_29 (by decide +kernel)
theorem dL_law_1242 : decode cL_law 1242 = .ok (.iconst 1, 1) := dc1_4 (by decide +kernel)
theorem dL_law_1243 : decode cL_law 1243 = .ok (.iadd, 1) := dc1_96 (by decide +kernel)
theorem dL_law_1244 : decode cL_law 1244 = .ok (.iaload, 1) := dc1_46 (by decide +kernel)
theorem dL_law_1245 : decode cL_law 1245 = .ok (.aload_n 0, 1) := dc1_42 (by decide +kernel)
theorem dL_law_1246 : decode cL_law 1246 = .ok (.iload_n 3, 1) := dc1_29 (by decide +kernel)
theorem dL_law_1247 : decode cL_law 1247 = .ok (.iconst 2, 1) := dc1_5 (by decide +kernel)
theorem dL_law_1248 : decode cL_law 1248 = .ok (.iadd, 1) := dc1_96 (by decide +kernel)
theorem dL_law_1249 : decode cL_law 1249 = .ok (.iaload, 1) := dc1_46 (by decide +kernel)
theorem dL_law_1250 : decode cL_law 1250 = .ok (.aload_n 0, 1) := dc1_42 (by decide +kernel)
theorem dL_law_1251 : decode cL_law 1251 = .ok (.iload_n 3, 1) := dc1_29 (by decide +kernel)
theorem dL_law_1252 : decode cL_law 1252 = .ok (.iconst 3, 1) := dc1_6 (by decide +kernel)
theorem dL_law_1253 : decode cL_law 1253 = .ok (.iadd, 1) := dc1_96 (by decide +kernel)
theorem dL_law_1254 : decode cL_law 1254 = .ok (.iaload, 1) := dc1_46 (by decide +kernel)
theorem dL_law_1255 : decode cL_law 1255 = .ok (.ifCond .eq 7, 3) := dcs_153 (n := 7) (by decide +kernel)
theorem dL_law_1258 : decode cL_law 1258 = .ok (.iconst 1, 1) := dc1_4 (by decide +kernel)
theorem dL_law_1259 : decode cL_law 1259 = .ok (.goto 4, 3) := dcs_167 (n := 4) (by decide +kernel)
theorem dL_law_1262 : decode cL_law 1262 = .ok (.iconst 0, 1) := dc1_3 (by decide +kernel)
theorem dL_law_1263 : decode cL_law 1263 = .ok (.invokevirtual 177, 3) := dcw_182 (by decide +kernel)
theorem dL_law_1266 : decode cL_law 1266 = .ok (.pop, 1) := dc1_87 (by decide +kernel)
theorem dL_law_1267 : decode cL_law 1267 = .ok (.aload_n 2, 1) := dc1_44 (by decide +kernel)
theorem dL_law_1268 : decode cL_law 1268 = .ok (.aload_n 0, 1) := dc1_42 (by decide +kernel)
theorem dL_law_1269 : decode cL_law 1269 = .ok (.iload_n 3, 1) := dc1_29 (by decide +kernel)
theorem dL_law_1270 : decode cL_law 1270 = .ok (.iconst 1, 1) := dc1_4 (by decide +kernel)
theorem dL_law_1271 : decode cL_law 1271 = .ok (.iadd, 1) := dc1_96 (by decide +kernel)
theorem dL_law_1272 : decode cL_law 1272 = .ok (.iaload, 1) := dc1_46 (by decide +kernel)
theorem dL_law_1273 : decode cL_law 1273 = .ok (.aload_n 0, 1) := dc1_42 (by decide +kernel)
theorem dL_law_1274 : decode cL_law 1274 = .ok (.iload_n 3, 1) := dc1_29 (by decide +kernel)
theorem dL_law_1275 : decode cL_law 1275 = .ok (.iconst 2, 1) := dc1_5 (by decide +kernel)
theorem dL_law_1276 : decode cL_law 1276 = .ok (.iadd, 1) := dc1_96 (by decide +kernel)
theorem dL_law_1277 : decode cL_law 1277 = .ok (.iaload, 1) := dc1_46 (by decide +kernel)
theorem dL_law_1278 : decode cL_law 1278 = .ok (.aload_n 0, 1) := dc1_42 (by decide +kernel)
theorem dL_law_1279 : decode cL_law 1279 = .ok (.iload_n 3, 1) := dc1_29 (by decide +kernel)
theorem dL_law_1280 : decode cL_law 1280 = .ok (.iconst 3, 1) := dc1_6 (by decide +kernel)
theorem dL_law_1281 : decode cL_law 1281 = .ok (.iadd, 1) := dc1_96 (by decide +kernel)
theorem dL_law_1282 : decode cL_law 1282 = .ok (.iaload, 1) := dc1_46 (by decide +kernel)
theorem dL_law_1283 : decode cL_law 1283 = .ok (.ifCond .eq 7, 3) := dcs_153 (n := 7) (by decide +kernel)
theorem dL_law_1286 : decode cL_law 1286 = .ok (.iconst 1, 1) := dc1_4 (by decide +kernel)
theorem dL_law_1287 : decode cL_law 1287 = .ok (.goto 4, 3) := dcs_167 (n := 4) (by decide +kernel)
theorem dL_law_1290 : decode cL_law 1290 = .ok (.iconst 0, 1) := dc1_3 (by decide +kernel)
theorem dL_law_1291 : decode cL_law 1291 = .ok (.invokevirtual 181, 3) := dcw_182 (by decide +kernel)
theorem dL_law_1294 : decode cL_law 1294 = .ok (.pop, 1) := dc1_87 (by decide +kernel)
theorem dL_law_1295 : decode cL_law 1295 = .ok (.goto 194, 3) := dcs_167 (n := 194) (by decide +kernel)
theorem dL_law_1298 : decode cL_law 1298 = .ok (.aload_n 1, 1) := dc1_43 (by decide +kernel)
theorem dL_law_1299 : decode cL_law 1299 = .ok (.invokevirtual 182, 3) := dcw_182 (by decide +kernel)
theorem dL_law_1302 : decode cL_law 1302 = .ok (.pop, 1) := dc1_87 (by decide +kernel)
theorem dL_law_1303 : decode cL_law 1303 = .ok (.aload_n 2, 1) := dc1_44 (by decide +kernel)
theorem dL_law_1304 : decode cL_law 1304 = .ok (.invokevirtual 185, 3) := dcw_182 (by decide +kernel)
theorem dL_law_1307 : decode cL_law 1307 = .ok (.pop, 1) := dc1_87 (by decide +kernel)
theorem dL_law_1308 : decode cL_law 1308 = .ok (.goto 181, 3) := dcs_167 (n := 181) (by decide +kernel)
theorem dL_law_1311 : decode cL_law 1311 = .ok (.aload_n 1, 1) := dc1_43 (by decide +kernel)
theorem dL_law_1312 : decode cL_law 1312 = .ok (.aload_n 0, 1) := dc1_42 (by decide +kernel)
theorem dL_law_1313 : decode cL_law 1313 = .ok (.iload_n 3, 1) := dc1_29 (by decide +kernel)
theorem dL_law_1314 : decode cL_law 1314 = .ok (.iconst 1, 1) := dc1_4 (by decide +kernel)
theorem dL_law_1315 : decode cL_law 1315 = .ok (.iadd, 1) := dc1_96 (by decide +kernel)
theorem dL_law_1316 : decode cL_law 1316 = .ok (.iaload, 1) := dc1_46 (by decide +kernel)
theorem dL_law_1317 : decode cL_law 1317 = .ok (.aload_n 0, 1) := dc1_42 (by decide +kernel)
theorem dL_law_1318 : decode cL_law 1318 = .ok (.iload_n 3, 1) := dc1_29 (by decide +kernel)
theorem dL_law_1319 : decode cL_law 1319 = .ok (.iconst 2, 1) := dc1_5 (by decide +kernel)
theorem dL_law_1320 : decode cL_law 1320 = .ok (.iadd, 1) := dc1_96 (by decide +kernel)
theorem dL_law_1321 : decode cL_law 1321 = .ok (.iaload, 1) := dc1_46 (by decide +kernel)
theorem dL_law_1322 : decode cL_law 1322 = .ok (.aload_n 0, 1) := dc1_42 (by decide +kernel)
theorem dL_law_1323 : decode cL_law 1323 = .ok (.iload_n 3, 1) := dc1_29 (by decide +kernel)
theorem dL_law_1324 : decode cL_law 1324 = .ok (.iconst 3, 1) := dc1_6 (by decide +kernel)
theorem dL_law_1325 : decode cL_law 1325 = .ok (.iadd, 1) := dc1_96 (by decide +kernel)
theorem dL_law_1326 : decode cL_law 1326 = .ok (.iaload, 1) := dc1_46 (by decide +kernel)
theorem dL_law_1327 : decode cL_law 1327 = .ok (.invokevirtual 186, 3) := dcw_182 (by decide +kernel)
theorem dL_law_1330 : decode cL_law 1330 = .ok (.pop, 1) := dc1_87 (by decide +kernel)
theorem dL_law_1331 : decode cL_law 1331 = .ok (.aload_n 2, 1) := dc1_44 (by decide +kernel)
theorem dL_law_1332 : decode cL_law 1332 = .ok (.aload_n 0, 1) := dc1_42 (by decide +kernel)
theorem dL_law_1333 : decode cL_law 1333 = .ok (.iload_n 3, 1) := dc1_29 (by decide +kernel)
theorem dL_law_1334 : decode cL_law 1334 = .ok (.iconst 1, 1) := dc1_4 (by decide +kernel)
theorem dL_law_1335 : decode cL_law 1335 = .ok (.iadd, 1) := dc1_96 (by decide +kernel)
theorem dL_law_1336 : decode cL_law 1336 = .ok (.iaload, 1) := dc1_46 (by decide +kernel)
theorem dL_law_1337 : decode cL_law 1337 = .ok (.aload_n 0, 1) := dc1_42 (by decide +kernel)
theorem dL_law_1338 : decode cL_law 1338 = .ok (.iload_n 3, 1) := dc1_29 (by decide +kernel)
theorem dL_law_1339 : decode cL_law 1339 = .ok (.iconst 2, 1) := dc1_5 (by decide +kernel)
theorem dL_law_1340 : decode cL_law 1340 = .ok (.iadd, 1) := dc1_96 (by decide +kernel)
theorem dL_law_1341 : decode cL_law 1341 = .ok (.iaload, 1) := dc1_46 (by decide +kernel)
theorem dL_law_1342 : decode cL_law 1342 = .ok (.aload_n 0, 1) := dc1_42 (by decide +kernel)
theorem dL_law_1343 : decode cL_law 1343 = .ok (.iload_n 3, 1) := dc1_29 (by decide +kernel)
theorem dL_law_1344 : decode cL_law 1344 = .ok (.iconst 3, 1) := dc1_6 (by decide +kernel)
theorem dL_law_1345 : decode cL_law 1345 = .ok (.iadd, 1) := dc1_96 (by decide +kernel)
theorem dL_law_1346 : decode cL_law 1346 = .ok (.iaload, 1) := dc1_46 (by decide +kernel)
theorem dL_law_1347 : decode cL_law 1347 = .ok (.invokevirtual 189, 3) := dcw_182 (by decide +kernel)
theorem dL_law_1350 : decode cL_law 1350 = .ok (.pop, 1) := dc1_87 (by decide +kernel)
theorem dL_law_1351 : decode cL_law 1351 = .ok (.goto 138, 3) := dcs_167 (n := 138) (by decide +kernel)
theorem dL_law_1354 : decode cL_law 1354 = .ok (.aload_n 1, 1) := dc1_43 (by decide +kernel)
theorem dL_law_1355 : decode cL_law 1355 = .ok (.aload_n 0, 1) := dc1_42 (by decide +kernel)
theorem dL_law_1356 : decode cL_law 1356 = .ok (.iload_n 3, 1) := dc1_29 (by decide +kernel)
theorem dL_law_1357 : decode cL_law 1357 = .ok (.iconst 1, 1) := dc1_4 (by decide +kernel)
theorem dL_law_1358 : decode cL_law 1358 = .ok (.iadd, 1) := dc1_96 (by decide +kernel)
theorem dL_law_1359 : decode cL_law 1359 = .ok (.iaload, 1) := dc1_46 (by decide +kernel)
theorem dL_law_1360 : decode cL_law 1360 = .ok (.aload_n 0, 1) := dc1_42 (by decide +kernel)
theorem dL_law_1361 : decode cL_law 1361 = .ok (.iload_n 3, 1) := dc1_29 (by decide +kernel)
theorem dL_law_1362 : decode cL_law 1362 = .ok (.iconst 2, 1) := dc1_5 (by decide +kernel)
theorem dL_law_1363 : decode cL_law 1363 = .ok (.iadd, 1) := dc1_96 (by decide +kernel)
theorem dL_law_1364 : decode cL_law 1364 = .ok (.iaload, 1) := dc1_46 (by decide +kernel)
theorem dL_law_1365 : decode cL_law 1365 = .ok (.invokevirtual 190, 3) := dcw_182 (by decide +kernel)
theorem dL_law_1368 : decode cL_law 1368 = .ok (.pop, 1) := dc1_87 (by decide +kernel)
theorem dL_law_1369 : decode cL_law 1369 = .ok (.aload_n 2, 1) := dc1_44 (by decide +kernel)
theorem dL_law_1370 : decode cL_law 1370 = .ok (.aload_n 0, 1) := dc1_42 (by decide +kernel)
theorem dL_law_1371 : decode cL_law 1371 = .ok (.iload_n 3, 1) := dc1_29 (by decide +kernel)
theorem dL_law_1372 : decode cL_law 1372 = .ok (.iconst 1, 1) := dc1_4 (by decide +kernel)
theorem dL_law_1373 : decode cL_law 1373 = .ok (.iadd, 1) := dc1_96 (by decide +kernel)
theorem dL_law_1374 : decode cL_law 1374 = .ok (.iaload, 1) := dc1_46 (by decide +kernel)
theorem dL_law_1375 : decode cL_law 1375 = .ok (.aload_n 0, 1) := dc1_42 (by decide +kernel)
theorem dL_law_1376 : decode cL_law 1376 = .ok (.iload_n 3, 1) := dc1_29 (by decide +kernel)
theorem dL_law_1377 : decode cL_law 1377 = .ok (.iconst 2, 1) := dc1_5 (by decide +kernel)
theorem dL_law_1378 : decode cL_law 1378 = .ok (.iadd, 1) := dc1_96 (by decide +kernel)
theorem dL_law_1379 : decode cL_law 1379 = .ok (.iaload, 1) := dc1_46 (by decide +kernel)
theorem dL_law_1380 : decode cL_law 1380 = .ok (.invokevirtual 193, 3) := dcw_182 (by decide +kernel)
theorem dL_law_1383 : decode cL_law 1383 = .ok (.pop, 1) := dc1_87 (by decide +kernel)
theorem dL_law_1384 : decode cL_law 1384 = .ok (.goto 105, 3) := dcs_167 (n := 105) (by decide +kernel)
theorem dL_law_1387 : decode cL_law 1387 = .ok (.aload_n 1, 1) := dc1_43 (by decide +kernel)
theorem dL_law_1388 : decode cL_law 1388 = .ok (.aload_n 0, 1) := dc1_42 (by decide +kernel)
theorem dL_law_1389 : decode cL_law 1389 = .ok (.iload_n 3, 1) := dc1_29 (by decide +kernel)
theorem dL_law_1390 : decode cL_law 1390 = .ok (.iconst 1, 1) := dc1_4 (by decide +kernel)
theorem dL_law_1391 : decode cL_law 1391 = .ok (.iadd, 1) := dc1_96 (by decide +kernel)
theorem dL_law_1392 : decode cL_law 1392 = .ok (.iaload, 1) := dc1_46 (by decide +kernel)
theorem dL_law_1393 : decode cL_law 1393 = .ok (.aload_n 0, 1) := dc1_42 (by decide +kernel)
theorem dL_law_1394 : decode cL_law 1394 = .ok (.iload_n 3, 1) := dc1_29 (by decide +kernel)
theorem dL_law_1395 : decode cL_law 1395 = .ok (.iconst 2, 1) := dc1_5 (by decide +kernel)
theorem dL_law_1396 : decode cL_law 1396 = .ok (.iadd, 1) := dc1_96 (by decide +kernel)
theorem dL_law_1397 : decode cL_law 1397 = .ok (.iaload, 1) := dc1_46 (by decide +kernel)
theorem dL_law_1398 : decode cL_law 1398 = .ok (.invokevirtual 194, 3) := dcw_182 (by decide +kernel)
theorem dL_law_1401 : decode cL_law 1401 = .ok (.pop, 1) := dc1_87 (by decide +kernel)
theorem dL_law_1402 : decode cL_law 1402 = .ok (.aload_n 2, 1) := dc1_44 (by decide +kernel)
theorem dL_law_1403 : decode cL_law 1403 = .ok (.aload_n 0, 1) := dc1_42 (by decide +kernel)
theorem dL_law_1404 : decode cL_law 1404 = .ok (.iload_n 3, 1) := dc1_29 (by decide +kernel)
theorem dL_law_1405 : decode cL_law 1405 = .ok (.iconst 1, 1) := dc1_4 (by decide +kernel)
theorem dL_law_1406 : decode cL_law 1406 = .ok (.iadd, 1) := dc1_96 (by decide +kernel)
theorem dL_law_1407 : decode cL_law 1407 = .ok (.iaload, 1) := dc1_46 (by decide +kernel)
theorem dL_law_1408 : decode cL_law 1408 = .ok (.aload_n 0, 1) := dc1_42 (by decide +kernel)
theorem dL_law_1409 : decode cL_law 1409 = .ok (.iload_n 3, 1) := dc1_29 (by decide +kernel)
theorem dL_law_1410 : decode cL_law 1410 = .ok (.iconst 2, 1) := dc1_5 (by decide +kernel)
theorem dL_law_1411 : decode cL_law 1411 = .ok (.iadd, 1) := dc1_96 (by decide +kernel)
theorem dL_law_1412 : decode cL_law 1412 = .ok (.iaload, 1) := dc1_46 (by decide +kernel)
theorem dL_law_1413 : decode cL_law 1413 = .ok (.invokevirtual 197, 3) := dcw_182 (by decide +kernel)
theorem dL_law_1416 : decode cL_law 1416 = .ok (.pop, 1) := dc1_87 (by decide +kernel)
theorem dL_law_1417 : decode cL_law 1417 = .ok (.goto 72, 3) := dcs_167 (n := 72) (by decide +kernel)
set_option maxHeartbeats 4000000 in
set_option maxRecDepth 100000 in
theorem law_case_38 {p : Program} {e : Env} {s : State} {m : MethodId} {below : List Frame} {meth : Method} {c : Code} (l : Launch) {b L : Nat} {xs : Nat → Int32} (hL : L ≤ 3072) (C0 : lw_At p s m meth c b L xs) (dC : Nat → ClassId) (dI : Nat → Nat → Nat) (cB cI cJ cZ cS : ClassId) (hK : va_K (dC, dI) vwCl (tysA cB cI cJ cZ cS) s) (hN : nw_ok s) (ak av : Nat) (hXS : xS ak av (fun q : Nat => s.heap.size ≤ q) s s.heap) (a b1 b2 c0 : Nat → Nat) (bb : Nat → Nat → Nat) (hm : Nat) (a9 : Nat → Nat) (i : Nat) (hi : i + 6 ≤ L) (kk : ∀ (y : YS) (z : RS) (H : Heap) (locs : List Loc) (ls : Array Slot), InvK y.x.k → InvG y.x.g → InvR z → Big z → TP y z → va_P (dC, dI) vwCl (mwS cB cI cJ cZ hm a9 z ++ wY cB cI cJ cZ cS a b1 b2 c0 bb y) H → va_D (fun q : Nat => s.heap.size ≤ q) (mwS cB cI cJ cZ hm a9 z ++ wY cB cI cJ cZ cS a b1 b2 c0 bb y) → va_S (fun q : Nat => s.heap.size ≤ q) s.heap H locs → lv_has ls 4 [(3, .int (nI i)), (2, .ref hm), (1, .ref (c0 0)), (0, .ref b)] → W p l e room_1 s m #[Value.ref b] below meth c H locs 361 24806 (lw_Z below #[Value.ref b] s) (F0 m 1489 ls [])) : ∀ (y : YS) (z : RS) (H : Heap) (locs : List Loc) (ls : Array Slot), InvK y.x.k → InvG y.x.g → InvR z → Big z → TP y z → va_P (dC, dI) vwCl (mwS cB cI cJ cZ hm a9 z ++ wY cB cI cJ cZ cS a b1 b2 c0 bb y) H → va_D (fun q : Nat => s.heap.size ≤ q) (mwS cB cI cJ cZ hm a9 z ++ wY cB cI cJ cZ cS a b1 b2 c0 bb y) → va_S (fun q : Nat => s.heap.size ≤ q) s.heap H locs → lv_has ls 4 [(3, .int (nI i)), (2, .ref hm), (1, .ref (c0 0)), (0, .ref b)] → W p l e room_1 s m #[Value.ref b] below meth c H locs 361 24806 (lw_Z below #[Value.ref b] s) (F0 m 1206 ls []) := by
  obtain ⟨hx, hb, hr, hml, hown, hts, hX, hbl, hlocks, hgv⟩ := id C0
  have C : CallFix p m c code 4 s #[Value.ref b] lw_tbl R_law := ⟨hx, hb, hml, hown, hts⟩
  have hA : ∀ q : Nat, s.heap.size ≤ q → (fun q : Nat => s.heap.size ≤ q) q := fun _ h => h
  have hbA : ¬ (fun q : Nat => s.heap.size ≤ q) b := Nat.not_le.mpr hbl
  intro y z H locs ls hIK hIG hIR hBG hTP hP hD hS hl
  refine lv_aload_n hx hb dL_law_1206 rfl (lv_at hl 2 rfl) ?_
  refine lv_aload_n hx hb dL_law_1207 rfl (lv_at hl 3 rfl) ?_
  refine lv_iload_n hx hb dL_law_1208 rfl (lv_at hl 0 rfl) ?_
  refine lv_iconst (v := 1) hx hb dL_law_1209 (by decide) ?_
  refine lv_iadd hx hb dL_law_1210 ?_
  refine q_top (y := nI (i + 1)) (nI_add i 1) ?_
  refine va_sld hx hb hX hbl hbA hS (vp_in_nI (by omega) (by omega)) dL_law_1211 ?_
  refine lv_aload_n hx hb dL_law_1212 rfl (lv_at hl 3 rfl) ?_
  refine lv_iload_n hx hb dL_law_1213 rfl (lv_at hl 0 rfl) ?_
  refine lv_iconst (v := 2) hx hb dL_law_1214 (by decide) ?_
  refine lv_iadd hx hb dL_law_1215 ?_
  refine q_top (y := nI (i + 2)) (nI_add i 2) ?_
  refine va_sld hx hb hX hbl hbA hS (vp_in_nI (by omega) (by omega)) dL_law_1216 ?_
  obtain ⟨⟨r1, y1⟩, hB1, hq1⟩ := ok_kX10_drawn y.x (xs (Int32.toNatClampNeg (nI (i + 1)))) (xs (Int32.toNatClampNeg (nI (i + 2)))) (hIK) (hIG)
  have hP1 : va_P (dC, dI) vwCl (wX cB cI cJ cZ cS a b1 b2 c0 (rgP bb) (slP bb) y.x ++ (wPool cI bb y.r 43 ++ mwS cB cI cJ cZ hm a9 z)) H := sw1P hP
  have hD1 : va_D (fun q : Nat => s.heap.size ≤ q) (wX cB cI cJ cZ cS a b1 b2 c0 (rgP bb) (slP bb) y.x ++ (wPool cI bb y.r 43 ++ mwS cB cI cJ cZ hm a9 z)) := sw1D hD
  refine q_goiW (va_runV (As := [.int (xs (Int32.toNatClampNeg (nI (i + 1)))), .int (xs (Int32.toNatClampNeg (nI (i + 2))))]) (rest := []) C (ckX10_drawn hB1 _) (cwV 2 hts glv_X10_drawn rfl rfl rfl (by decide +kernel) ⟨Nat.le_of_ble_eq_true rfl, Nat.le_of_ble_eq_true rfl⟩) (q_preV hK (P_left hP1) (ci := 10) (q0 := 0) rfl rfl rfl (q_preF hN hK (P_left hP1) (D_left hD1))) rfl rfl hl.1 rfl (lv_room (Nat.le_of_ble_eq_true rfl)) dL_law_1217 ⟨Nat.le_of_ble_eq_true rfl, Nat.le_of_ble_eq_true rfl⟩) hP1 hD1 hS hA (fun q1 w1 H locs hw hP hD hS => ?_)
  obtain ⟨hr1, hw⟩ := hw
  subst hw
  have hP : va_P (dC, dI) vwCl (mwS cB cI cJ cZ hm a9 z ++ wY cB cI cJ cZ cS a b1 b2 c0 bb (YS.mk y1 y.r)) H := sw3P hP
  have hD : va_D (fun q : Nat => s.heap.size ≤ q) (mwS cB cI cJ cZ hm a9 z ++ wY cB cI cJ cZ cS a b1 b2 c0 bb (YS.mk y1 y.r)) := sw3D hD
  refine lv_pop hx hb dL_law_1220 rfl ?_
  refine lv_aload_n hx hb dL_law_1221 rfl (lv_at hl 1 rfl) ?_
  refine lv_aload_n hx hb dL_law_1222 rfl (lv_at hl 3 rfl) ?_
  refine lv_iload_n hx hb dL_law_1223 rfl (lv_at hl 0 rfl) ?_
  refine lv_iconst (v := 1) hx hb dL_law_1224 (by decide) ?_
  refine lv_iadd hx hb dL_law_1225 ?_
  refine q_top (y := nI (i + 1)) (nI_add i 1) ?_
  refine va_sld hx hb hX hbl hbA hS (vp_in_nI (by omega) (by omega)) dL_law_1226 ?_
  refine lv_aload_n hx hb dL_law_1227 rfl (lv_at hl 3 rfl) ?_
  refine lv_iload_n hx hb dL_law_1228 rfl (lv_at hl 0 rfl) ?_
  refine lv_iconst (v := 2) hx hb dL_law_1229 (by decide) ?_
  refine lv_iadd hx hb dL_law_1230 ?_
  refine q_top (y := nI (i + 2)) (nI_add i 2) ?_
  refine va_sld hx hb hX hbl hbA hS (vp_in_nI (by omega) (by omega)) dL_law_1231 ?_
  obtain ⟨⟨r2, z2⟩, hB2, hq2⟩ := ok_r_drawn z (xs (Int32.toNatClampNeg (nI (i + 1)))) (xs (Int32.toNatClampNeg (nI (i + 2)))) (hIR) (hBG)
  refine q_goiW (va_runV (As := [.int (xs (Int32.toNatClampNeg (nI (i + 1)))), .int (xs (Int32.toNatClampNeg (nI (i + 2))))]) (rest := []) C (cr_drawn hB2 _) (cwV 2 hts glv_X11_drawn rfl rfl rfl (by decide +kernel) ⟨Nat.le_of_ble_eq_true rfl, Nat.le_of_ble_eq_true rfl⟩) (q_preV hK (P_left hP) (ci := 11) (q0 := 0) rfl rfl rfl (q_preF hN hK (P_left hP) (D_left hD))) rfl rfl hl.1 rfl (lv_room (Nat.le_of_ble_eq_true rfl)) dL_law_1232 ⟨Nat.le_of_ble_eq_true rfl, Nat.le_of_ble_eq_true rfl⟩) hP hD hS hA (fun q2 w2 H locs hw hP hD hS => ?_)
  obtain ⟨hr2, hw⟩ := hw
  subst hw
  refine lv_pop hx hb dL_law_1235 rfl ?_
  refine lv_goto (tgt := 1489) hx hb dL_law_1236 (by decide) ?_
  exact kk (YS.mk y1 y.r) z2 H locs ls (hq1.1) (hq1.2.2.1) (hq2.1) ((hBG).fr (hq2.2.1) (by decide)) ⟨tpr_keep (hq1.2.1) (hq2.2.1) (by decide) (by decide) hTP.1, REL.keep hTP.2 (fr_kX10_drawn _ _ _ _ _ ⟨rfl, rfl⟩ _ hB1).1 (fr_kX10_drawn _ _ _ _ _ ⟨rfl, rfl⟩ _ hB1).2 (hq1.2.1) (hq2.2.1) ⟨by decide, by decide⟩ ⟨by decide, by decide⟩⟩ hP hD hS hl

set_option maxHeartbeats 4000000 in
set_option maxRecDepth 100000 in
theorem law_case_39 {p : Program} {e : Env} {s : State} {m : MethodId} {below : List Frame} {meth : Method} {c : Code} (l : Launch) {b L : Nat} {xs : Nat → Int32} (hL : L ≤ 3072) (C0 : lw_At p s m meth c b L xs) (dC : Nat → ClassId) (dI : Nat → Nat → Nat) (cB cI cJ cZ cS : ClassId) (hK : va_K (dC, dI) vwCl (tysA cB cI cJ cZ cS) s) (hN : nw_ok s) (ak av : Nat) (hXS : xS ak av (fun q : Nat => s.heap.size ≤ q) s s.heap) (a b1 b2 c0 : Nat → Nat) (bb : Nat → Nat → Nat) (hm : Nat) (a9 : Nat → Nat) (i : Nat) (hi : i + 6 ≤ L) (kk : ∀ (y : YS) (z : RS) (H : Heap) (locs : List Loc) (ls : Array Slot), InvK y.x.k → InvG y.x.g → InvR z → Big z → TP y z → va_P (dC, dI) vwCl (mwS cB cI cJ cZ hm a9 z ++ wY cB cI cJ cZ cS a b1 b2 c0 bb y) H → va_D (fun q : Nat => s.heap.size ≤ q) (mwS cB cI cJ cZ hm a9 z ++ wY cB cI cJ cZ cS a b1 b2 c0 bb y) → va_S (fun q : Nat => s.heap.size ≤ q) s.heap H locs → lv_has ls 4 [(3, .int (nI i)), (2, .ref hm), (1, .ref (c0 0)), (0, .ref b)] → W p l e room_1 s m #[Value.ref b] below meth c H locs 361 24806 (lw_Z below #[Value.ref b] s) (F0 m 1489 ls [])) : ∀ (y : YS) (z : RS) (H : Heap) (locs : List Loc) (ls : Array Slot), InvK y.x.k → InvG y.x.g → InvR z → Big z → TP y z → va_P (dC, dI) vwCl (mwS cB cI cJ cZ hm a9 z ++ wY cB cI cJ cZ cS a b1 b2 c0 bb y) H → va_D (fun q : Nat => s.heap.size ≤ q) (mwS cB cI cJ cZ hm a9 z ++ wY cB cI cJ cZ cS a b1 b2 c0 bb y) → va_S (fun q : Nat => s.heap.size ≤ q) s.heap H locs → lv_has ls 4 [(3, .int (nI i)), (2, .ref hm), (1, .ref (c0 0)), (0, .ref b)] → W p l e room_1 s m #[Value.ref b] below meth c H locs 361 24806 (lw_Z below #[Value.ref b] s) (F0 m 1239 ls []) := by
  obtain ⟨hx, hb, hr, hml, hown, hts, hX, hbl, hlocks, hgv⟩ := id C0
  have C : CallFix p m c code 4 s #[Value.ref b] lw_tbl R_law := ⟨hx, hb, hml, hown, hts⟩
  have hA : ∀ q : Nat, s.heap.size ≤ q → (fun q : Nat => s.heap.size ≤ q) q := fun _ h => h
  have hbA : ¬ (fun q : Nat => s.heap.size ≤ q) b := Nat.not_le.mpr hbl
  intro y z H locs ls hIK hIG hIR hBG hTP hP hD hS hl
  refine lv_aload_n hx hb dL_law_1239 rfl (lv_at hl 2 rfl) ?_
  refine lv_aload_n hx hb dL_law_1240 rfl (lv_at hl 3 rfl) ?_
  refine lv_iload_n hx hb dL_law_1241 rfl (lv_at hl 0 rfl) ?_
  refine lv_iconst (v := 1) hx hb dL_law_1242 (by decide) ?_
  refine lv_iadd hx hb dL_law_1243 ?_
  refine q_top (y := nI (i + 1)) (nI_add i 1) ?_
  refine va_sld hx hb hX hbl hbA hS (vp_in_nI (by omega) (by omega)) dL_law_1244 ?_
  refine lv_aload_n hx hb dL_law_1245 rfl (lv_at hl 3 rfl) ?_
  refine lv_iload_n hx hb dL_law_1246 rfl (lv_at hl 0 rfl) ?_
  refine lv_iconst (v := 2) hx hb dL_law_1247 (by decide) ?_
  refine lv_iadd hx hb dL_law_1248 ?_
  refine q_top (y := nI (i + 2)) (nI_add i 2) ?_
  refine va_sld hx hb hX hbl hbA hS (vp_in_nI (by omega) (by omega)) dL_law_1249 ?_
  refine lv_aload_n hx hb dL_law_1250 rfl (lv_at hl 3 rfl) ?_
  refine lv_iload_n hx hb dL_law_1251 rfl (lv_at hl 0 rfl) ?_
  refine lv_iconst (v := 3) hx hb dL_law_1252 (by decide) ?_
  refine lv_iadd hx hb dL_law_1253 ?_
  refine q_top (y := nI (i + 3)) (nI_add i 3) ?_
  refine va_sld hx hb hX hbl hbA hS (vp_in_nI (by omega) (by omega)) dL_law_1254 ?_
  refine lv_if_eq (tgt := 1262) hx hb dL_law_1255 (by decide) (fun c1 => ?_) (fun c1 => ?_)
  · skip
    refine lv_iconst (v := 0) hx hb dL_law_1262 (by decide) ?_
    obtain ⟨⟨r2, y2⟩, hB2, hq2⟩ := ok_kX10_tell y.x (xs (Int32.toNatClampNeg (nI (i + 1)))) (xs (Int32.toNatClampNeg (nI (i + 2)))) 0 (hIK) (hIG)
    have hP2 : va_P (dC, dI) vwCl (wX cB cI cJ cZ cS a b1 b2 c0 (rgP bb) (slP bb) y.x ++ (wPool cI bb y.r 43 ++ mwS cB cI cJ cZ hm a9 z)) H := sw1P hP
    have hD2 : va_D (fun q : Nat => s.heap.size ≤ q) (wX cB cI cJ cZ cS a b1 b2 c0 (rgP bb) (slP bb) y.x ++ (wPool cI bb y.r 43 ++ mwS cB cI cJ cZ hm a9 z)) := sw1D hD
    refine q_goiW (va_runV (As := [.int (xs (Int32.toNatClampNeg (nI (i + 1)))), .int (xs (Int32.toNatClampNeg (nI (i + 2)))), .int 0]) (rest := []) C (ckX10_tell hB2 _) (cwV 3 hts glv_X10_tell rfl rfl rfl (by decide +kernel) ⟨Nat.le_of_ble_eq_true rfl, Nat.le_of_ble_eq_true rfl⟩) (q_preV hK (P_left hP2) (ci := 10) (q0 := 0) rfl rfl rfl (q_preF hN hK (P_left hP2) (D_left hD2))) rfl rfl hl.1 rfl (lv_room (Nat.le_of_ble_eq_true rfl)) dL_law_1263 ⟨Nat.le_of_ble_eq_true rfl, Nat.le_of_ble_eq_true rfl⟩) hP2 hD2 hS hA (fun q2 w2 H locs hw hP hD hS => ?_)
    obtain ⟨hr2, hw⟩ := hw
    subst hw
    have hP : va_P (dC, dI) vwCl (mwS cB cI cJ cZ hm a9 z ++ wY cB cI cJ cZ cS a b1 b2 c0 bb (YS.mk y2 y.r)) H := sw3P hP
    have hD : va_D (fun q : Nat => s.heap.size ≤ q) (mwS cB cI cJ cZ hm a9 z ++ wY cB cI cJ cZ cS a b1 b2 c0 bb (YS.mk y2 y.r)) := sw3D hD
    refine lv_pop hx hb dL_law_1266 rfl ?_
    refine lv_aload_n hx hb dL_law_1267 rfl (lv_at hl 1 rfl) ?_
    refine lv_aload_n hx hb dL_law_1268 rfl (lv_at hl 3 rfl) ?_
    refine lv_iload_n hx hb dL_law_1269 rfl (lv_at hl 0 rfl) ?_
    refine lv_iconst (v := 1) hx hb dL_law_1270 (by decide) ?_
    refine lv_iadd hx hb dL_law_1271 ?_
    refine q_top (y := nI (i + 1)) (nI_add i 1) ?_
    refine va_sld hx hb hX hbl hbA hS (vp_in_nI (by omega) (by omega)) dL_law_1272 ?_
    refine lv_aload_n hx hb dL_law_1273 rfl (lv_at hl 3 rfl) ?_
    refine lv_iload_n hx hb dL_law_1274 rfl (lv_at hl 0 rfl) ?_
    refine lv_iconst (v := 2) hx hb dL_law_1275 (by decide) ?_
    refine lv_iadd hx hb dL_law_1276 ?_
    refine q_top (y := nI (i + 2)) (nI_add i 2) ?_
    refine va_sld hx hb hX hbl hbA hS (vp_in_nI (by omega) (by omega)) dL_law_1277 ?_
    refine lv_aload_n hx hb dL_law_1278 rfl (lv_at hl 3 rfl) ?_
    refine lv_iload_n hx hb dL_law_1279 rfl (lv_at hl 0 rfl) ?_
    refine lv_iconst (v := 3) hx hb dL_law_1280 (by decide) ?_
    refine lv_iadd hx hb dL_law_1281 ?_
    refine q_top (y := nI (i + 3)) (nI_add i 3) ?_
    refine va_sld hx hb hX hbl hbA hS (vp_in_nI (by omega) (by omega)) dL_law_1282 ?_
    refine lv_if_eq (tgt := 1290) hx hb dL_law_1283 (by decide) (fun c3 => ?_) (fun c3 => ?_)
    · skip
      refine lv_iconst (v := 0) hx hb dL_law_1290 (by decide) ?_
      obtain ⟨⟨r4, z4⟩, hB4, hq4⟩ := ok_r_tell z (xs (Int32.toNatClampNeg (nI (i + 1)))) (xs (Int32.toNatClampNeg (nI (i + 2)))) 0 (hIR)
      refine q_goiW (va_runV (As := [.int (xs (Int32.toNatClampNeg (nI (i + 1)))), .int (xs (Int32.toNatClampNeg (nI (i + 2)))), .int 0]) (rest := []) C (cr_tell hB4 _) (cwV 3 hts glv_X11_tell rfl rfl rfl (by decide +kernel) ⟨Nat.le_of_ble_eq_true rfl, Nat.le_of_ble_eq_true rfl⟩) (q_preV hK (P_left hP) (ci := 11) (q0 := 0) rfl rfl rfl (q_preF hN hK (P_left hP) (D_left hD))) rfl rfl hl.1 rfl (lv_room (Nat.le_of_ble_eq_true rfl)) dL_law_1291 ⟨Nat.le_of_ble_eq_true rfl, Nat.le_of_ble_eq_true rfl⟩) hP hD hS hA (fun q4 w4 H locs hw hP hD hS => ?_)
      obtain ⟨hr4, hw⟩ := hw
      subst hw
      refine lv_pop hx hb dL_law_1294 rfl ?_
      refine lv_goto (tgt := 1489) hx hb dL_law_1295 (by decide) ?_
      exact kk (YS.mk y2 y.r) z4 H locs ls (hq2.1) (hq2.2.2.1) (hq4.1) ((hBG).fr (hq4.2.1) (by decide)) ⟨tpr_told (hq2.2.1) (hq4.2.1) (by decide) (by decide) hTP.1 (tell_same hIK hIR hTP.1 hB2 hB4).2, REL.keepT hTP.2 (fr_kX10_tell _ _ _ _ _ _ ⟨rfl, rfl⟩ _ hB2).1 (fr_kX10_tell _ _ _ _ _ _ ⟨rfl, rfl⟩ _ hB2).2 (hq2.2.1) (hq4.2.1) (by decide) ⟨by decide, by decide⟩ (tell_tel hIK hIR hTP.1 hTP.2.2.2.2.2 (by first | exact Or.inl rfl | exact Or.inr rfl) hB2 hB4)⟩ hP hD hS hl
    · skip
      first | exact absurd c3 c1 | exact absurd c1 c3
  · skip
    refine lv_iconst (v := 1) hx hb dL_law_1258 (by decide) ?_
    refine lv_goto (tgt := 1263) hx hb dL_law_1259 (by decide) ?_
    obtain ⟨⟨r5, y5⟩, hB5, hq5⟩ := ok_kX10_tell y.x (xs (Int32.toNatClampNeg (nI (i + 1)))) (xs (Int32.toNatClampNeg (nI (i + 2)))) 1 (hIK) (hIG)
    have hP5 : va_P (dC, dI) vwCl (wX cB cI cJ cZ cS a b1 b2 c0 (rgP bb) (slP bb) y.x ++ (wPool cI bb y.r 43 ++ mwS cB cI cJ cZ hm a9 z)) H := sw1P hP
    have hD5 : va_D (fun q : Nat => s.heap.size ≤ q) (wX cB cI cJ cZ cS a b1 b2 c0 (rgP bb) (slP bb) y.x ++ (wPool cI bb y.r 43 ++ mwS cB cI cJ cZ hm a9 z)) := sw1D hD
    refine q_goiW (va_runV (As := [.int (xs (Int32.toNatClampNeg (nI (i + 1)))), .int (xs (Int32.toNatClampNeg (nI (i + 2)))), .int 1]) (rest := []) C (ckX10_tell hB5 _) (cwV 3 hts glv_X10_tell rfl rfl rfl (by decide +kernel) ⟨Nat.le_of_ble_eq_true rfl, Nat.le_of_ble_eq_true rfl⟩) (q_preV hK (P_left hP5) (ci := 10) (q0 := 0) rfl rfl rfl (q_preF hN hK (P_left hP5) (D_left hD5))) rfl rfl hl.1 rfl (lv_room (Nat.le_of_ble_eq_true rfl)) dL_law_1263 ⟨Nat.le_of_ble_eq_true rfl, Nat.le_of_ble_eq_true rfl⟩) hP5 hD5 hS hA (fun q5 w5 H locs hw hP hD hS => ?_)
    obtain ⟨hr5, hw⟩ := hw
    subst hw
    have hP : va_P (dC, dI) vwCl (mwS cB cI cJ cZ hm a9 z ++ wY cB cI cJ cZ cS a b1 b2 c0 bb (YS.mk y5 y.r)) H := sw3P hP
    have hD : va_D (fun q : Nat => s.heap.size ≤ q) (mwS cB cI cJ cZ hm a9 z ++ wY cB cI cJ cZ cS a b1 b2 c0 bb (YS.mk y5 y.r)) := sw3D hD
    refine lv_pop hx hb dL_law_1266 rfl ?_
    refine lv_aload_n hx hb dL_law_1267 rfl (lv_at hl 1 rfl) ?_
    refine lv_aload_n hx hb dL_law_1268 rfl (lv_at hl 3 rfl) ?_
    refine lv_iload_n hx hb dL_law_1269 rfl (lv_at hl 0 rfl) ?_
    refine lv_iconst (v := 1) hx hb dL_law_1270 (by decide) ?_
    refine lv_iadd hx hb dL_law_1271 ?_
    refine q_top (y := nI (i + 1)) (nI_add i 1) ?_
    refine va_sld hx hb hX hbl hbA hS (vp_in_nI (by omega) (by omega)) dL_law_1272 ?_
    refine lv_aload_n hx hb dL_law_1273 rfl (lv_at hl 3 rfl) ?_
    refine lv_iload_n hx hb dL_law_1274 rfl (lv_at hl 0 rfl) ?_
    refine lv_iconst (v := 2) hx hb dL_law_1275 (by decide) ?_
    refine lv_iadd hx hb dL_law_1276 ?_
    refine q_top (y := nI (i + 2)) (nI_add i 2) ?_
    refine va_sld hx hb hX hbl hbA hS (vp_in_nI (by omega) (by omega)) dL_law_1277 ?_
    refine lv_aload_n hx hb dL_law_1278 rfl (lv_at hl 3 rfl) ?_
    refine lv_iload_n hx hb dL_law_1279 rfl (lv_at hl 0 rfl) ?_
    refine lv_iconst (v := 3) hx hb dL_law_1280 (by decide) ?_
    refine lv_iadd hx hb dL_law_1281 ?_
    refine q_top (y := nI (i + 3)) (nI_add i 3) ?_
    refine va_sld hx hb hX hbl hbA hS (vp_in_nI (by omega) (by omega)) dL_law_1282 ?_
    refine lv_if_eq (tgt := 1290) hx hb dL_law_1283 (by decide) (fun c6 => ?_) (fun c6 => ?_)
    · skip
      first | exact absurd c6 c1 | exact absurd c1 c6
    · skip
      refine lv_iconst (v := 1) hx hb dL_law_1286 (by decide) ?_
      refine lv_goto (tgt := 1291) hx hb dL_law_1287 (by decide) ?_
      obtain ⟨⟨r7, z7⟩, hB7, hq7⟩ := ok_r_tell z (xs (Int32.toNatClampNeg (nI (i + 1)))) (xs (Int32.toNatClampNeg (nI (i + 2)))) 1 (hIR)
      refine q_goiW (va_runV (As := [.int (xs (Int32.toNatClampNeg (nI (i + 1)))), .int (xs (Int32.toNatClampNeg (nI (i + 2)))), .int 1]) (rest := []) C (cr_tell hB7 _) (cwV 3 hts glv_X11_tell rfl rfl rfl (by decide +kernel) ⟨Nat.le_of_ble_eq_true rfl, Nat.le_of_ble_eq_true rfl⟩) (q_preV hK (P_left hP) (ci := 11) (q0 := 0) rfl rfl rfl (q_preF hN hK (P_left hP) (D_left hD))) rfl rfl hl.1 rfl (lv_room (Nat.le_of_ble_eq_true rfl)) dL_law_1291 ⟨Nat.le_of_ble_eq_true rfl, Nat.le_of_ble_eq_true rfl⟩) hP hD hS hA (fun q7 w7 H locs hw hP hD hS => ?_)
      obtain ⟨hr7, hw⟩ := hw
      subst hw
      refine lv_pop hx hb dL_law_1294 rfl ?_
      refine lv_goto (tgt := 1489) hx hb dL_law_1295 (by decide) ?_
      exact kk (YS.mk y5 y.r) z7 H locs ls (hq5.1) (hq5.2.2.1) (hq7.1) ((hBG).fr (hq7.2.1) (by decide)) ⟨tpr_told (hq5.2.1) (hq7.2.1) (by decide) (by decide) hTP.1 (tell_same hIK hIR hTP.1 hB5 hB7).2, REL.keepT hTP.2 (fr_kX10_tell _ _ _ _ _ _ ⟨rfl, rfl⟩ _ hB5).1 (fr_kX10_tell _ _ _ _ _ _ ⟨rfl, rfl⟩ _ hB5).2 (hq5.2.1) (hq7.2.1) (by decide) ⟨by decide, by decide⟩ (tell_tel hIK hIR hTP.1 hTP.2.2.2.2.2 (by first | exact Or.inl rfl | exact Or.inr rfl) hB5 hB7)⟩ hP hD hS hl

set_option maxHeartbeats 4000000 in
set_option maxRecDepth 100000 in
theorem law_case_40 {p : Program} {e : Env} {s : State} {m : MethodId} {below : List Frame} {meth : Method} {c : Code} (l : Launch) {b L : Nat} {xs : Nat → Int32} (hL : L ≤ 3072) (C0 : lw_At p s m meth c b L xs) (dC : Nat → ClassId) (dI : Nat → Nat → Nat) (cB cI cJ cZ cS : ClassId) (hK : va_K (dC, dI) vwCl (tysA cB cI cJ cZ cS) s) (hN : nw_ok s) (ak av : Nat) (hXS : xS ak av (fun q : Nat => s.heap.size ≤ q) s s.heap) (a b1 b2 c0 : Nat → Nat) (bb : Nat → Nat → Nat) (hm : Nat) (a9 : Nat → Nat) (i : Nat) (hi : i + 6 ≤ L) (kk : ∀ (y : YS) (z : RS) (H : Heap) (locs : List Loc) (ls : Array Slot), InvK y.x.k → InvG y.x.g → InvR z → Big z → TP y z → va_P (dC, dI) vwCl (mwS cB cI cJ cZ hm a9 z ++ wY cB cI cJ cZ cS a b1 b2 c0 bb y) H → va_D (fun q : Nat => s.heap.size ≤ q) (mwS cB cI cJ cZ hm a9 z ++ wY cB cI cJ cZ cS a b1 b2 c0 bb y) → va_S (fun q : Nat => s.heap.size ≤ q) s.heap H locs → lv_has ls 4 [(3, .int (nI i)), (2, .ref hm), (1, .ref (c0 0)), (0, .ref b)] → W p l e room_1 s m #[Value.ref b] below meth c H locs 361 24806 (lw_Z below #[Value.ref b] s) (F0 m 1489 ls [])) : ∀ (y : YS) (z : RS) (H : Heap) (locs : List Loc) (ls : Array Slot), InvK y.x.k → InvG y.x.g → InvR z → Big z → TP y z → va_P (dC, dI) vwCl (mwS cB cI cJ cZ hm a9 z ++ wY cB cI cJ cZ cS a b1 b2 c0 bb y) H → va_D (fun q : Nat => s.heap.size ≤ q) (mwS cB cI cJ cZ hm a9 z ++ wY cB cI cJ cZ cS a b1 b2 c0 bb y) → va_S (fun q : Nat => s.heap.size ≤ q) s.heap H locs → lv_has ls 4 [(3, .int (nI i)), (2, .ref hm), (1, .ref (c0 0)), (0, .ref b)] → W p l e room_1 s m #[Value.ref b] below meth c H locs 361 24806 (lw_Z below #[Value.ref b] s) (F0 m 1298 ls []) := by
  obtain ⟨hx, hb, hr, hml, hown, hts, hX, hbl, hlocks, hgv⟩ := id C0
  have C : CallFix p m c code 4 s #[Value.ref b] lw_tbl R_law := ⟨hx, hb, hml, hown, hts⟩
  have hA : ∀ q : Nat, s.heap.size ≤ q → (fun q : Nat => s.heap.size ≤ q) q := fun _ h => h
  have hbA : ¬ (fun q : Nat => s.heap.size ≤ q) b := Nat.not_le.mpr hbl
  intro y z H locs ls hIK hIG hIR hBG hTP hP hD hS hl
  refine lv_aload_n hx hb dL_law_1298 rfl (lv_at hl 2 rfl) ?_
  obtain ⟨⟨r1, y1⟩, hB1, hq1⟩ := ok_kX10_forget y.x (hIK) (hIG)
  have hP1 : va_P (dC, dI) vwCl (wX cB cI cJ cZ cS a b1 b2 c0 (rgP bb) (slP bb) y.x ++ (wPool cI bb y.r 43 ++ mwS cB cI cJ cZ hm a9 z)) H := sw1P hP
  have hD1 : va_D (fun q : Nat => s.heap.size ≤ q) (wX cB cI cJ cZ cS a b1 b2 c0 (rgP bb) (slP bb) y.x ++ (wPool cI bb y.r 43 ++ mwS cB cI cJ cZ hm a9 z)) := sw1D hD
  refine q_goiW (va_runV (As := []) (rest := []) C (ckX10_forget hB1 _) (cwV 0 hts glv_X10_forget rfl rfl rfl (by decide +kernel) ⟨Nat.le_of_ble_eq_true rfl, Nat.le_of_ble_eq_true rfl⟩) (q_preV hK (P_left hP1) (ci := 10) (q0 := 0) rfl rfl rfl (q_preF hN hK (P_left hP1) (D_left hD1))) rfl rfl hl.1 rfl (lv_room (Nat.le_of_ble_eq_true rfl)) dL_law_1299 ⟨Nat.le_of_ble_eq_true rfl, Nat.le_of_ble_eq_true rfl⟩) hP1 hD1 hS hA (fun q1 w1 H locs hw hP hD hS => ?_)
  obtain ⟨hr1, hw⟩ := hw
  subst hw
  have hP : va_P (dC, dI) vwCl (mwS cB cI cJ cZ hm a9 z ++ wY cB cI cJ cZ cS a b1 b2 c0 bb (YS.mk y1 y.r)) H := sw3P hP
  have hD : va_D (fun q : Nat => s.heap.size ≤ q) (mwS cB cI cJ cZ hm a9 z ++ wY cB cI cJ cZ cS a b1 b2 c0 bb (YS.mk y1 y.r)) := sw3D hD
  refine lv_pop hx hb dL_law_1302 rfl ?_
  refine lv_aload_n hx hb dL_law_1303 rfl (lv_at hl 1 rfl) ?_
  obtain ⟨⟨r2, z2⟩, hB2, hq2⟩ := ok_r_forget z (hIR)
  refine q_goiW (va_runV (As := []) (rest := []) C (cr_forget hB2 _) (cwV 0 hts glv_X11_forget rfl rfl rfl (by decide +kernel) ⟨Nat.le_of_ble_eq_true rfl, Nat.le_of_ble_eq_true rfl⟩) (q_preV hK (P_left hP) (ci := 11) (q0 := 0) rfl rfl rfl (q_preF hN hK (P_left hP) (D_left hD))) rfl rfl hl.1 rfl (lv_room (Nat.le_of_ble_eq_true rfl)) dL_law_1304 ⟨Nat.le_of_ble_eq_true rfl, Nat.le_of_ble_eq_true rfl⟩) hP hD hS hA (fun q2 w2 H locs hw hP hD hS => ?_)
  obtain ⟨hr2, hw⟩ := hw
  subst hw
  refine lv_pop hx hb dL_law_1307 rfl ?_
  refine lv_goto (tgt := 1489) hx hb dL_law_1308 (by decide) ?_
  exact kk (YS.mk y1 y.r) z2 H locs ls (hq1.1) (hq1.2.2.1) (hq2.1) ((hBG).fr (hq2.2.1) (by decide)) ⟨tpr_told (hq1.2.1) (hq2.2.1) (by decide) (by decide) hTP.1 (forget_same hIK hIR hTP.1 hB1 hB2).2, REL.keepT hTP.2 (fr_kX10_forget _ _ _ ⟨rfl, rfl⟩ _ hB1).1 (fr_kX10_forget _ _ _ ⟨rfl, rfl⟩ _ hB1).2 (hq1.2.1) (hq2.2.1) (by decide) ⟨by decide, by decide⟩ (forget_tel hB1)⟩ hP hD hS hl

set_option maxHeartbeats 4000000 in
set_option maxRecDepth 100000 in
theorem law_case_41 {p : Program} {e : Env} {s : State} {m : MethodId} {below : List Frame} {meth : Method} {c : Code} (l : Launch) {b L : Nat} {xs : Nat → Int32} (hL : L ≤ 3072) (C0 : lw_At p s m meth c b L xs) (dC : Nat → ClassId) (dI : Nat → Nat → Nat) (cB cI cJ cZ cS : ClassId) (hK : va_K (dC, dI) vwCl (tysA cB cI cJ cZ cS) s) (hN : nw_ok s) (ak av : Nat) (hXS : xS ak av (fun q : Nat => s.heap.size ≤ q) s s.heap) (a b1 b2 c0 : Nat → Nat) (bb : Nat → Nat → Nat) (hm : Nat) (a9 : Nat → Nat) (i : Nat) (hi : i + 6 ≤ L) (kk : ∀ (y : YS) (z : RS) (H : Heap) (locs : List Loc) (ls : Array Slot), InvK y.x.k → InvG y.x.g → InvR z → Big z → TP y z → va_P (dC, dI) vwCl (mwS cB cI cJ cZ hm a9 z ++ wY cB cI cJ cZ cS a b1 b2 c0 bb y) H → va_D (fun q : Nat => s.heap.size ≤ q) (mwS cB cI cJ cZ hm a9 z ++ wY cB cI cJ cZ cS a b1 b2 c0 bb y) → va_S (fun q : Nat => s.heap.size ≤ q) s.heap H locs → lv_has ls 4 [(3, .int (nI i)), (2, .ref hm), (1, .ref (c0 0)), (0, .ref b)] → W p l e room_1 s m #[Value.ref b] below meth c H locs 361 24806 (lw_Z below #[Value.ref b] s) (F0 m 1489 ls [])) : ∀ (y : YS) (z : RS) (H : Heap) (locs : List Loc) (ls : Array Slot), InvK y.x.k → InvG y.x.g → InvR z → Big z → TP y z → va_P (dC, dI) vwCl (mwS cB cI cJ cZ hm a9 z ++ wY cB cI cJ cZ cS a b1 b2 c0 bb y) H → va_D (fun q : Nat => s.heap.size ≤ q) (mwS cB cI cJ cZ hm a9 z ++ wY cB cI cJ cZ cS a b1 b2 c0 bb y) → va_S (fun q : Nat => s.heap.size ≤ q) s.heap H locs → lv_has ls 4 [(3, .int (nI i)), (2, .ref hm), (1, .ref (c0 0)), (0, .ref b)] → W p l e room_1 s m #[Value.ref b] below meth c H locs 361 24806 (lw_Z below #[Value.ref b] s) (F0 m 1311 ls []) := by
  obtain ⟨hx, hb, hr, hml, hown, hts, hX, hbl, hlocks, hgv⟩ := id C0
  have C : CallFix p m c code 4 s #[Value.ref b] lw_tbl R_law := ⟨hx, hb, hml, hown, hts⟩
  have hA : ∀ q : Nat, s.heap.size ≤ q → (fun q : Nat => s.heap.size ≤ q) q := fun _ h => h
  have hbA : ¬ (fun q : Nat => s.heap.size ≤ q) b := Nat.not_le.mpr hbl
  intro y z H locs ls hIK hIG hIR hBG hTP hP hD hS hl
  refine lv_aload_n hx hb dL_law_1311 rfl (lv_at hl 2 rfl) ?_
  refine lv_aload_n hx hb dL_law_1312 rfl (lv_at hl 3 rfl) ?_
  refine lv_iload_n hx hb dL_law_1313 rfl (lv_at hl 0 rfl) ?_
  refine lv_iconst (v := 1) hx hb dL_law_1314 (by decide) ?_
  refine lv_iadd hx hb dL_law_1315 ?_
  refine q_top (y := nI (i + 1)) (nI_add i 1) ?_
  refine va_sld hx hb hX hbl hbA hS (vp_in_nI (by omega) (by omega)) dL_law_1316 ?_
  refine lv_aload_n hx hb dL_law_1317 rfl (lv_at hl 3 rfl) ?_
  refine lv_iload_n hx hb dL_law_1318 rfl (lv_at hl 0 rfl) ?_
  refine lv_iconst (v := 2) hx hb dL_law_1319 (by decide) ?_
  refine lv_iadd hx hb dL_law_1320 ?_
  refine q_top (y := nI (i + 2)) (nI_add i 2) ?_
  refine va_sld hx hb hX hbl hbA hS (vp_in_nI (by omega) (by omega)) dL_law_1321 ?_
  refine lv_aload_n hx hb dL_law_1322 rfl (lv_at hl 3 rfl) ?_
  refine lv_iload_n hx hb dL_law_1323 rfl (lv_at hl 0 rfl) ?_
  refine lv_iconst (v := 3) hx hb dL_law_1324 (by decide) ?_
  refine lv_iadd hx hb dL_law_1325 ?_
  refine q_top (y := nI (i + 3)) (nI_add i 3) ?_
  refine va_sld hx hb hX hbl hbA hS (vp_in_nI (by omega) (by omega)) dL_law_1326 ?_
  obtain ⟨⟨r1, y1⟩, hB1, hq1⟩ := ok_kX10_fit y.x (xs (Int32.toNatClampNeg (nI (i + 1)))) (xs (Int32.toNatClampNeg (nI (i + 2)))) (xs (Int32.toNatClampNeg (nI (i + 3)))) (hIK) (hIG)
  have hP1 : va_P (dC, dI) vwCl (wX cB cI cJ cZ cS a b1 b2 c0 (rgP bb) (slP bb) y.x ++ (wPool cI bb y.r 43 ++ mwS cB cI cJ cZ hm a9 z)) H := sw1P hP
  have hD1 : va_D (fun q : Nat => s.heap.size ≤ q) (wX cB cI cJ cZ cS a b1 b2 c0 (rgP bb) (slP bb) y.x ++ (wPool cI bb y.r 43 ++ mwS cB cI cJ cZ hm a9 z)) := sw1D hD
  refine q_goiW (va_runV (As := [.int (xs (Int32.toNatClampNeg (nI (i + 1)))), .int (xs (Int32.toNatClampNeg (nI (i + 2)))), .int (xs (Int32.toNatClampNeg (nI (i + 3))))]) (rest := []) C (ckX10_fit hB1 _) (cwV 3 hts glv_X10_fit rfl rfl rfl (by decide +kernel) ⟨Nat.le_of_ble_eq_true rfl, Nat.le_of_ble_eq_true rfl⟩) (q_preV hK (P_left hP1) (ci := 10) (q0 := 0) rfl rfl rfl (q_preF hN hK (P_left hP1) (D_left hD1))) rfl rfl hl.1 rfl (lv_room (Nat.le_of_ble_eq_true rfl)) dL_law_1327 ⟨Nat.le_of_ble_eq_true rfl, Nat.le_of_ble_eq_true rfl⟩) hP1 hD1 hS hA (fun q1 w1 H locs hw hP hD hS => ?_)
  obtain ⟨hr1, hw⟩ := hw
  subst hw
  have hP : va_P (dC, dI) vwCl (mwS cB cI cJ cZ hm a9 z ++ wY cB cI cJ cZ cS a b1 b2 c0 bb (YS.mk y1 y.r)) H := sw3P hP
  have hD : va_D (fun q : Nat => s.heap.size ≤ q) (mwS cB cI cJ cZ hm a9 z ++ wY cB cI cJ cZ cS a b1 b2 c0 bb (YS.mk y1 y.r)) := sw3D hD
  refine lv_pop hx hb dL_law_1330 rfl ?_
  refine lv_aload_n hx hb dL_law_1331 rfl (lv_at hl 1 rfl) ?_
  refine lv_aload_n hx hb dL_law_1332 rfl (lv_at hl 3 rfl) ?_
  refine lv_iload_n hx hb dL_law_1333 rfl (lv_at hl 0 rfl) ?_
  refine lv_iconst (v := 1) hx hb dL_law_1334 (by decide) ?_
  refine lv_iadd hx hb dL_law_1335 ?_
  refine q_top (y := nI (i + 1)) (nI_add i 1) ?_
  refine va_sld hx hb hX hbl hbA hS (vp_in_nI (by omega) (by omega)) dL_law_1336 ?_
  refine lv_aload_n hx hb dL_law_1337 rfl (lv_at hl 3 rfl) ?_
  refine lv_iload_n hx hb dL_law_1338 rfl (lv_at hl 0 rfl) ?_
  refine lv_iconst (v := 2) hx hb dL_law_1339 (by decide) ?_
  refine lv_iadd hx hb dL_law_1340 ?_
  refine q_top (y := nI (i + 2)) (nI_add i 2) ?_
  refine va_sld hx hb hX hbl hbA hS (vp_in_nI (by omega) (by omega)) dL_law_1341 ?_
  refine lv_aload_n hx hb dL_law_1342 rfl (lv_at hl 3 rfl) ?_
  refine lv_iload_n hx hb dL_law_1343 rfl (lv_at hl 0 rfl) ?_
  refine lv_iconst (v := 3) hx hb dL_law_1344 (by decide) ?_
  refine lv_iadd hx hb dL_law_1345 ?_
  refine q_top (y := nI (i + 3)) (nI_add i 3) ?_
  refine va_sld hx hb hX hbl hbA hS (vp_in_nI (by omega) (by omega)) dL_law_1346 ?_
  obtain ⟨⟨r2, z2⟩, hB2, hq2⟩ := ok_r_fit z (xs (Int32.toNatClampNeg (nI (i + 1)))) (xs (Int32.toNatClampNeg (nI (i + 2)))) (xs (Int32.toNatClampNeg (nI (i + 3)))) (hIR) (hBG)
  refine q_goiW (va_runV (As := [.int (xs (Int32.toNatClampNeg (nI (i + 1)))), .int (xs (Int32.toNatClampNeg (nI (i + 2)))), .int (xs (Int32.toNatClampNeg (nI (i + 3))))]) (rest := []) C (cr_fit hB2 _) (cwV 3 hts glv_X11_fit rfl rfl rfl (by decide +kernel) ⟨Nat.le_of_ble_eq_true rfl, Nat.le_of_ble_eq_true rfl⟩) (q_preV hK (P_left hP) (ci := 11) (q0 := 0) rfl rfl rfl (q_preF hN hK (P_left hP) (D_left hD))) rfl rfl hl.1 rfl (lv_room (Nat.le_of_ble_eq_true rfl)) dL_law_1347 ⟨Nat.le_of_ble_eq_true rfl, Nat.le_of_ble_eq_true rfl⟩) hP hD hS hA (fun q2 w2 H locs hw hP hD hS => ?_)
  obtain ⟨hr2, hw⟩ := hw
  subst hw
  refine lv_pop hx hb dL_law_1350 rfl ?_
  refine lv_goto (tgt := 1489) hx hb dL_law_1351 (by decide) ?_
  exact kk (YS.mk y1 y.r) z2 H locs ls (hq1.1) (hq1.2.2.1) (hq2.1) ((hBG).fr (hq2.2.1) (by decide)) ⟨tpr_keep (hq1.2.1) (hq2.2.1) (by decide) (by decide) hTP.1, REL.keep hTP.2 (fr_kX10_fit _ _ _ _ _ _ ⟨rfl, rfl⟩ _ hB1).1 (fr_kX10_fit _ _ _ _ _ _ ⟨rfl, rfl⟩ _ hB1).2 (hq1.2.1) (hq2.2.1) ⟨by decide, by decide⟩ ⟨by decide, by decide⟩⟩ hP hD hS hl

set_option maxHeartbeats 4000000 in
set_option maxRecDepth 100000 in
theorem law_case_42 {p : Program} {e : Env} {s : State} {m : MethodId} {below : List Frame} {meth : Method} {c : Code} (l : Launch) {b L : Nat} {xs : Nat → Int32} (hL : L ≤ 3072) (C0 : lw_At p s m meth c b L xs) (dC : Nat → ClassId) (dI : Nat → Nat → Nat) (cB cI cJ cZ cS : ClassId) (hK : va_K (dC, dI) vwCl (tysA cB cI cJ cZ cS) s) (hN : nw_ok s) (ak av : Nat) (hXS : xS ak av (fun q : Nat => s.heap.size ≤ q) s s.heap) (a b1 b2 c0 : Nat → Nat) (bb : Nat → Nat → Nat) (hm : Nat) (a9 : Nat → Nat) (i : Nat) (hi : i + 6 ≤ L) (kk : ∀ (y : YS) (z : RS) (H : Heap) (locs : List Loc) (ls : Array Slot), InvK y.x.k → InvG y.x.g → InvR z → Big z → TP y z → va_P (dC, dI) vwCl (mwS cB cI cJ cZ hm a9 z ++ wY cB cI cJ cZ cS a b1 b2 c0 bb y) H → va_D (fun q : Nat => s.heap.size ≤ q) (mwS cB cI cJ cZ hm a9 z ++ wY cB cI cJ cZ cS a b1 b2 c0 bb y) → va_S (fun q : Nat => s.heap.size ≤ q) s.heap H locs → lv_has ls 4 [(3, .int (nI i)), (2, .ref hm), (1, .ref (c0 0)), (0, .ref b)] → W p l e room_1 s m #[Value.ref b] below meth c H locs 361 24806 (lw_Z below #[Value.ref b] s) (F0 m 1489 ls [])) : ∀ (y : YS) (z : RS) (H : Heap) (locs : List Loc) (ls : Array Slot), InvK y.x.k → InvG y.x.g → InvR z → Big z → TP y z → va_P (dC, dI) vwCl (mwS cB cI cJ cZ hm a9 z ++ wY cB cI cJ cZ cS a b1 b2 c0 bb y) H → va_D (fun q : Nat => s.heap.size ≤ q) (mwS cB cI cJ cZ hm a9 z ++ wY cB cI cJ cZ cS a b1 b2 c0 bb y) → va_S (fun q : Nat => s.heap.size ≤ q) s.heap H locs → lv_has ls 4 [(3, .int (nI i)), (2, .ref hm), (1, .ref (c0 0)), (0, .ref b)] → W p l e room_1 s m #[Value.ref b] below meth c H locs 361 24806 (lw_Z below #[Value.ref b] s) (F0 m 1354 ls []) := by
  obtain ⟨hx, hb, hr, hml, hown, hts, hX, hbl, hlocks, hgv⟩ := id C0
  have C : CallFix p m c code 4 s #[Value.ref b] lw_tbl R_law := ⟨hx, hb, hml, hown, hts⟩
  have hA : ∀ q : Nat, s.heap.size ≤ q → (fun q : Nat => s.heap.size ≤ q) q := fun _ h => h
  have hbA : ¬ (fun q : Nat => s.heap.size ≤ q) b := Nat.not_le.mpr hbl
  intro y z H locs ls hIK hIG hIR hBG hTP hP hD hS hl
  refine lv_aload_n hx hb dL_law_1354 rfl (lv_at hl 2 rfl) ?_
  refine lv_aload_n hx hb dL_law_1355 rfl (lv_at hl 3 rfl) ?_
  refine lv_iload_n hx hb dL_law_1356 rfl (lv_at hl 0 rfl) ?_
  refine lv_iconst (v := 1) hx hb dL_law_1357 (by decide) ?_
  refine lv_iadd hx hb dL_law_1358 ?_
  refine q_top (y := nI (i + 1)) (nI_add i 1) ?_
  refine va_sld hx hb hX hbl hbA hS (vp_in_nI (by omega) (by omega)) dL_law_1359 ?_
  refine lv_aload_n hx hb dL_law_1360 rfl (lv_at hl 3 rfl) ?_
  refine lv_iload_n hx hb dL_law_1361 rfl (lv_at hl 0 rfl) ?_
  refine lv_iconst (v := 2) hx hb dL_law_1362 (by decide) ?_
  refine lv_iadd hx hb dL_law_1363 ?_
  refine q_top (y := nI (i + 2)) (nI_add i 2) ?_
  refine va_sld hx hb hX hbl hbA hS (vp_in_nI (by omega) (by omega)) dL_law_1364 ?_
  obtain ⟨⟨r1, y1⟩, hB1, hq1⟩ := ok_kX10_lie y.x (xs (Int32.toNatClampNeg (nI (i + 1)))) (xs (Int32.toNatClampNeg (nI (i + 2)))) (hIK) (hIG)
  have hP1 : va_P (dC, dI) vwCl (wX cB cI cJ cZ cS a b1 b2 c0 (rgP bb) (slP bb) y.x ++ (wPool cI bb y.r 43 ++ mwS cB cI cJ cZ hm a9 z)) H := sw1P hP
  have hD1 : va_D (fun q : Nat => s.heap.size ≤ q) (wX cB cI cJ cZ cS a b1 b2 c0 (rgP bb) (slP bb) y.x ++ (wPool cI bb y.r 43 ++ mwS cB cI cJ cZ hm a9 z)) := sw1D hD
  refine q_goiW (va_runV (As := [.int (xs (Int32.toNatClampNeg (nI (i + 1)))), .int (xs (Int32.toNatClampNeg (nI (i + 2))))]) (rest := []) C (ckX10_lie hB1 _) (cwV 2 hts glv_X10_lie rfl rfl rfl (by decide +kernel) ⟨Nat.le_of_ble_eq_true rfl, Nat.le_of_ble_eq_true rfl⟩) (q_preV hK (P_left hP1) (ci := 10) (q0 := 0) rfl rfl rfl (q_preF hN hK (P_left hP1) (D_left hD1))) rfl rfl hl.1 rfl (lv_room (Nat.le_of_ble_eq_true rfl)) dL_law_1365 ⟨Nat.le_of_ble_eq_true rfl, Nat.le_of_ble_eq_true rfl⟩) hP1 hD1 hS hA (fun q1 w1 H locs hw hP hD hS => ?_)
  obtain ⟨hr1, hw⟩ := hw
  subst hw
  have hP : va_P (dC, dI) vwCl (mwS cB cI cJ cZ hm a9 z ++ wY cB cI cJ cZ cS a b1 b2 c0 bb (YS.mk y1 y.r)) H := sw3P hP
  have hD : va_D (fun q : Nat => s.heap.size ≤ q) (mwS cB cI cJ cZ hm a9 z ++ wY cB cI cJ cZ cS a b1 b2 c0 bb (YS.mk y1 y.r)) := sw3D hD
  refine lv_pop hx hb dL_law_1368 rfl ?_
  refine lv_aload_n hx hb dL_law_1369 rfl (lv_at hl 1 rfl) ?_
  refine lv_aload_n hx hb dL_law_1370 rfl (lv_at hl 3 rfl) ?_
  refine lv_iload_n hx hb dL_law_1371 rfl (lv_at hl 0 rfl) ?_
  refine lv_iconst (v := 1) hx hb dL_law_1372 (by decide) ?_
  refine lv_iadd hx hb dL_law_1373 ?_
  refine q_top (y := nI (i + 1)) (nI_add i 1) ?_
  refine va_sld hx hb hX hbl hbA hS (vp_in_nI (by omega) (by omega)) dL_law_1374 ?_
  refine lv_aload_n hx hb dL_law_1375 rfl (lv_at hl 3 rfl) ?_
  refine lv_iload_n hx hb dL_law_1376 rfl (lv_at hl 0 rfl) ?_
  refine lv_iconst (v := 2) hx hb dL_law_1377 (by decide) ?_
  refine lv_iadd hx hb dL_law_1378 ?_
  refine q_top (y := nI (i + 2)) (nI_add i 2) ?_
  refine va_sld hx hb hX hbl hbA hS (vp_in_nI (by omega) (by omega)) dL_law_1379 ?_
  obtain ⟨⟨r2, z2⟩, hB2, hq2⟩ := ok_r_lie z (xs (Int32.toNatClampNeg (nI (i + 1)))) (xs (Int32.toNatClampNeg (nI (i + 2)))) (hIR) (hBG)
  refine q_goiW (va_runV (As := [.int (xs (Int32.toNatClampNeg (nI (i + 1)))), .int (xs (Int32.toNatClampNeg (nI (i + 2))))]) (rest := []) C (cr_lie hB2 _) (cwV 2 hts glv_X11_lie rfl rfl rfl (by decide +kernel) ⟨Nat.le_of_ble_eq_true rfl, Nat.le_of_ble_eq_true rfl⟩) (q_preV hK (P_left hP) (ci := 11) (q0 := 0) rfl rfl rfl (q_preF hN hK (P_left hP) (D_left hD))) rfl rfl hl.1 rfl (lv_room (Nat.le_of_ble_eq_true rfl)) dL_law_1380 ⟨Nat.le_of_ble_eq_true rfl, Nat.le_of_ble_eq_true rfl⟩) hP hD hS hA (fun q2 w2 H locs hw hP hD hS => ?_)
  obtain ⟨hr2, hw⟩ := hw
  subst hw
  refine lv_pop hx hb dL_law_1383 rfl ?_
  refine lv_goto (tgt := 1489) hx hb dL_law_1384 (by decide) ?_
  exact kk (YS.mk y1 y.r) z2 H locs ls (hq1.1) (hq1.2.2.1) (hq2.1) ((hBG).fr (hq2.2.1) (by decide)) ⟨tpr_keep (hq1.2.1) (hq2.2.1) (by decide) (by decide) hTP.1, REL.keep hTP.2 (fr_kX10_lie _ _ _ _ _ ⟨rfl, rfl⟩ _ hB1).1 (fr_kX10_lie _ _ _ _ _ ⟨rfl, rfl⟩ _ hB1).2 (hq1.2.1) (hq2.2.1) ⟨by decide, by decide⟩ ⟨by decide, by decide⟩⟩ hP hD hS hl

set_option maxHeartbeats 4000000 in
set_option maxRecDepth 100000 in
theorem law_case_43 {p : Program} {e : Env} {s : State} {m : MethodId} {below : List Frame} {meth : Method} {c : Code} (l : Launch) {b L : Nat} {xs : Nat → Int32} (hL : L ≤ 3072) (C0 : lw_At p s m meth c b L xs) (dC : Nat → ClassId) (dI : Nat → Nat → Nat) (cB cI cJ cZ cS : ClassId) (hK : va_K (dC, dI) vwCl (tysA cB cI cJ cZ cS) s) (hN : nw_ok s) (ak av : Nat) (hXS : xS ak av (fun q : Nat => s.heap.size ≤ q) s s.heap) (a b1 b2 c0 : Nat → Nat) (bb : Nat → Nat → Nat) (hm : Nat) (a9 : Nat → Nat) (i : Nat) (hi : i + 6 ≤ L) (kk : ∀ (y : YS) (z : RS) (H : Heap) (locs : List Loc) (ls : Array Slot), InvK y.x.k → InvG y.x.g → InvR z → Big z → TP y z → va_P (dC, dI) vwCl (mwS cB cI cJ cZ hm a9 z ++ wY cB cI cJ cZ cS a b1 b2 c0 bb y) H → va_D (fun q : Nat => s.heap.size ≤ q) (mwS cB cI cJ cZ hm a9 z ++ wY cB cI cJ cZ cS a b1 b2 c0 bb y) → va_S (fun q : Nat => s.heap.size ≤ q) s.heap H locs → lv_has ls 4 [(3, .int (nI i)), (2, .ref hm), (1, .ref (c0 0)), (0, .ref b)] → W p l e room_1 s m #[Value.ref b] below meth c H locs 361 24806 (lw_Z below #[Value.ref b] s) (F0 m 1489 ls [])) : ∀ (y : YS) (z : RS) (H : Heap) (locs : List Loc) (ls : Array Slot), InvK y.x.k → InvG y.x.g → InvR z → Big z → TP y z → va_P (dC, dI) vwCl (mwS cB cI cJ cZ hm a9 z ++ wY cB cI cJ cZ cS a b1 b2 c0 bb y) H → va_D (fun q : Nat => s.heap.size ≤ q) (mwS cB cI cJ cZ hm a9 z ++ wY cB cI cJ cZ cS a b1 b2 c0 bb y) → va_S (fun q : Nat => s.heap.size ≤ q) s.heap H locs → lv_has ls 4 [(3, .int (nI i)), (2, .ref hm), (1, .ref (c0 0)), (0, .ref b)] → W p l e room_1 s m #[Value.ref b] below meth c H locs 361 24806 (lw_Z below #[Value.ref b] s) (F0 m 1387 ls []) := by
  obtain ⟨hx, hb, hr, hml, hown, hts, hX, hbl, hlocks, hgv⟩ := id C0
  have C : CallFix p m c code 4 s #[Value.ref b] lw_tbl R_law := ⟨hx, hb, hml, hown, hts⟩
  have hA : ∀ q : Nat, s.heap.size ≤ q → (fun q : Nat => s.heap.size ≤ q) q := fun _ h => h
  have hbA : ¬ (fun q : Nat => s.heap.size ≤ q) b := Nat.not_le.mpr hbl
  intro y z H locs ls hIK hIG hIR hBG hTP hP hD hS hl
  refine lv_aload_n hx hb dL_law_1387 rfl (lv_at hl 2 rfl) ?_
  refine lv_aload_n hx hb dL_law_1388 rfl (lv_at hl 3 rfl) ?_
  refine lv_iload_n hx hb dL_law_1389 rfl (lv_at hl 0 rfl) ?_
  refine lv_iconst (v := 1) hx hb dL_law_1390 (by decide) ?_
  refine lv_iadd hx hb dL_law_1391 ?_
  refine q_top (y := nI (i + 1)) (nI_add i 1) ?_
  refine va_sld hx hb hX hbl hbA hS (vp_in_nI (by omega) (by omega)) dL_law_1392 ?_
  refine lv_aload_n hx hb dL_law_1393 rfl (lv_at hl 3 rfl) ?_
  refine lv_iload_n hx hb dL_law_1394 rfl (lv_at hl 0 rfl) ?_
  refine lv_iconst (v := 2) hx hb dL_law_1395 (by decide) ?_
  refine lv_iadd hx hb dL_law_1396 ?_
  refine q_top (y := nI (i + 2)) (nI_add i 2) ?_
  refine va_sld hx hb hX hbl hbA hS (vp_in_nI (by omega) (by omega)) dL_law_1397 ?_
  obtain ⟨⟨r1, y1⟩, hB1, hq1⟩ := ok_kX10_ask y.x (xs (Int32.toNatClampNeg (nI (i + 1)))) (xs (Int32.toNatClampNeg (nI (i + 2)))) (hIK) (hIG)
  have hP1 : va_P (dC, dI) vwCl (wX cB cI cJ cZ cS a b1 b2 c0 (rgP bb) (slP bb) y.x ++ (wPool cI bb y.r 43 ++ mwS cB cI cJ cZ hm a9 z)) H := sw1P hP
  have hD1 : va_D (fun q : Nat => s.heap.size ≤ q) (wX cB cI cJ cZ cS a b1 b2 c0 (rgP bb) (slP bb) y.x ++ (wPool cI bb y.r 43 ++ mwS cB cI cJ cZ hm a9 z)) := sw1D hD
  refine q_goiW (va_runV (As := [.int (xs (Int32.toNatClampNeg (nI (i + 1)))), .int (xs (Int32.toNatClampNeg (nI (i + 2))))]) (rest := []) C (ckX10_ask hB1 _) (cwV 2 hts glv_X10_ask rfl rfl rfl (by decide +kernel) ⟨Nat.le_of_ble_eq_true rfl, Nat.le_of_ble_eq_true rfl⟩) (q_preV hK (P_left hP1) (ci := 10) (q0 := 0) rfl rfl rfl (q_preF hN hK (P_left hP1) (D_left hD1))) rfl rfl hl.1 rfl (lv_room (Nat.le_of_ble_eq_true rfl)) dL_law_1398 ⟨Nat.le_of_ble_eq_true rfl, Nat.le_of_ble_eq_true rfl⟩) hP1 hD1 hS hA (fun q1 w1 H locs hw hP hD hS => ?_)
  obtain ⟨hr1, hw⟩ := hw
  subst hw
  have hP : va_P (dC, dI) vwCl (mwS cB cI cJ cZ hm a9 z ++ wY cB cI cJ cZ cS a b1 b2 c0 bb (YS.mk y1 y.r)) H := sw3P hP
  have hD : va_D (fun q : Nat => s.heap.size ≤ q) (mwS cB cI cJ cZ hm a9 z ++ wY cB cI cJ cZ cS a b1 b2 c0 bb (YS.mk y1 y.r)) := sw3D hD
  refine lv_pop hx hb dL_law_1401 rfl ?_
  refine lv_aload_n hx hb dL_law_1402 rfl (lv_at hl 1 rfl) ?_
  refine lv_aload_n hx hb dL_law_1403 rfl (lv_at hl 3 rfl) ?_
  refine lv_iload_n hx hb dL_law_1404 rfl (lv_at hl 0 rfl) ?_
  refine lv_iconst (v := 1) hx hb dL_law_1405 (by decide) ?_
  refine lv_iadd hx hb dL_law_1406 ?_
  refine q_top (y := nI (i + 1)) (nI_add i 1) ?_
  refine va_sld hx hb hX hbl hbA hS (vp_in_nI (by omega) (by omega)) dL_law_1407 ?_
  refine lv_aload_n hx hb dL_law_1408 rfl (lv_at hl 3 rfl) ?_
  refine lv_iload_n hx hb dL_law_1409 rfl (lv_at hl 0 rfl) ?_
  refine lv_iconst (v := 2) hx hb dL_law_1410 (by decide) ?_
  refine lv_iadd hx hb dL_law_1411 ?_
  refine q_top (y := nI (i + 2)) (nI_add i 2) ?_
  refine va_sld hx hb hX hbl hbA hS (vp_in_nI (by omega) (by omega)) dL_law_1412 ?_
  obtain ⟨⟨r2, z2⟩, hB2, hq2⟩ := ok_r_ask z (xs (Int32.toNatClampNeg (nI (i + 1)))) (xs (Int32.toNatClampNeg (nI (i + 2)))) (hIR) (hBG)
  refine q_goiW (va_runV (As := [.int (xs (Int32.toNatClampNeg (nI (i + 1)))), .int (xs (Int32.toNatClampNeg (nI (i + 2))))]) (rest := []) C (cr_ask hB2 _) (cwV 2 hts glv_X11_ask rfl rfl rfl (by decide +kernel) ⟨Nat.le_of_ble_eq_true rfl, Nat.le_of_ble_eq_true rfl⟩) (q_preV hK (P_left hP) (ci := 11) (q0 := 0) rfl rfl rfl (q_preF hN hK (P_left hP) (D_left hD))) rfl rfl hl.1 rfl (lv_room (Nat.le_of_ble_eq_true rfl)) dL_law_1413 ⟨Nat.le_of_ble_eq_true rfl, Nat.le_of_ble_eq_true rfl⟩) hP hD hS hA (fun q2 w2 H locs hw hP hD hS => ?_)
  obtain ⟨hr2, hw⟩ := hw
  subst hw
  refine lv_pop hx hb dL_law_1416 rfl ?_
  refine lv_goto (tgt := 1489) hx hb dL_law_1417 (by decide) ?_
  exact kk (YS.mk y1 y.r) z2 H locs ls (hq1.1) (hq1.2.2.1) (hq2.1) ((hBG).fr (hq2.2.1) (by decide)) ⟨tpr_keep (hq1.2.1) (hq2.2.1) (by decide) (by decide) hTP.1, REL.keep hTP.2 (fr_kX10_ask _ _ _ _ _ ⟨rfl, rfl⟩ _ hB1).1 (fr_kX10_ask _ _ _ _ _ ⟨rfl, rfl⟩ _ hB1).2 (hq1.2.1) (hq2.2.1) ⟨by decide, by decide⟩ ⟨by decide, by decide⟩⟩ hP hD hS hl
