theorem dw_1250 : lw_in (Cond.selects RX11 yX11_lie yX11_lie) := ⟨List.mem_of_getElem? (i := 1978) (by decide +kernel), good_of_word (by decide +kernel)⟩
theorem dw_1251 : lw_in (Cond.instanceMethod yX11_lie) := ⟨List.mem_of_getElem? (i := 1977) (by decide +kernel), good_of_word (by decide +kernel)⟩
theorem dw_1252 : lw_in (Cond.methodLink R_law 193 yX11_lie) := ⟨List.mem_of_getElem? (i := 1976) (by decide +kernel), good_of_word (by decide +kernel)⟩
set_option maxRecDepth 100000 in
theorem dw_1253 : lw_in (Cond.code yX10_ask cX10_ask 3 (some .int)) := ⟨List.mem_of_getElem? (i := 1290) rfl, good_of_word (by decide +kernel)⟩
theorem dw_1254 : lw_in (Cond.selects RX8 yX8_waveToAsk yX8_waveToAsk) := ⟨List.mem_of_getElem? (i := 93) (by decide +kernel), good_of_word (by decide +kernel)⟩
theorem dw_1255 : lw_in (Cond.instanceMethod yX8_waveToAsk) := ⟨List.mem_of_getElem? (i := 1293) (by decide +kernel), good_of_word (by decide +kernel)⟩
set_option maxRecDepth 100000 in
theorem dw_1256 : lw_in (Cond.code yX8_waveToAsk cX8_waveToAsk 7 (some .int)) := ⟨List.mem_of_getElem? (i := 1294) rfl, good_of_word (by decide +kernel)⟩
theorem dw_1257 : lw_in (Cond.methodLink RX8 83 Lib.Math.max.name) := ⟨List.mem_of_getElem? (i := 1295) (by decide +kernel), good_of_word (by decide +kernel)⟩
theorem dw_1258 : lw_in (Cond.selects RX10 yX10_ask yX10_ask) := ⟨List.mem_of_getElem? (i := 1289) (by decide +kernel), good_of_word (by decide +kernel)⟩
theorem dw_1259 : lw_in (Cond.instanceMethod yX10_ask) := ⟨List.mem_of_getElem? (i := 1288) (by decide +kernel), good_of_word (by decide +kernel)⟩
theorem dw_1260 : lw_in (Cond.methodLink R_law 194 yX10_ask) := ⟨List.mem_of_getElem? (i := 1287) (by decide +kernel), good_of_word (by decide +kernel)⟩
set_option maxRecDepth 100000 in
theorem dw_1261 : lw_in (Cond.code yX11_ask cX11_ask 6 (some .int)) := ⟨List.mem_of_getElem? (i := 1983) rfl, good_of_word (by decide +kernel)⟩
theorem dw_1262 : lw_in (Cond.selects RX11 yX11_worstAt yX11_worstAt) := ⟨List.mem_of_getElem? (i := 165) (by decide +kernel), good_of_word (by decide +kernel)⟩
theorem dw_1263 : lw_in (Cond.instanceMethod yX11_worstAt) := ⟨List.mem_of_getElem? (i := 1986) (by decide +kernel), good_of_word (by decide +kernel)⟩
theorem dw_1264 : lw_in (Cond.methodLink RX11 428 yX11_worstAt) := ⟨List.mem_of_getElem? (i := 1984) (by decide +kernel), good_of_word (by decide +kernel)⟩
theorem dw_1265 : lw_in (Cond.fieldLink RX11 125 "GuessFerryModel" "fitBy" "[I") := ⟨List.mem_of_getElem? (i := 1418) (by decide +kernel), good_of_word (by decide +kernel)⟩
set_option maxRecDepth 100000 in
theorem dw_1266 : lw_in (Cond.code yX11_worstAt cX11_worstAt 4 (some .int)) := ⟨List.mem_of_getElem? (i := 1987) rfl, good_of_word (by decide +kernel)⟩
theorem dw_1267 : lw_in (Cond.selects RX11 yX11_ask yX11_ask) := ⟨List.mem_of_getElem? (i := 1982) (by decide +kernel), good_of_word (by decide +kernel)⟩
theorem dw_1268 : lw_in (Cond.instanceMethod yX11_ask) := ⟨List.mem_of_getElem? (i := 1981) (by decide +kernel), good_of_word (by decide +kernel)⟩
theorem dw_1269 : lw_in (Cond.methodLink R_law 197 yX11_ask) := ⟨List.mem_of_getElem? (i := 1980) (by decide +kernel), good_of_word (by decide +kernel)⟩
set_option maxRecDepth 100000 in
theorem dw_1270 : lw_in (Cond.code yX10_hold cX10_hold 2 (some .boolean)) := ⟨List.mem_of_getElem? (i := 1299) rfl, good_of_word (by decide +kernel)⟩
theorem dw_1271 : lw_in (Cond.selects RX3 yX3_keepIn yX3_keepIn) := ⟨List.mem_of_getElem? (i := 94) (by decide +kernel), good_of_word (by decide +kernel)⟩
theorem dw_1272 : lw_in (Cond.instanceMethod yX3_keepIn) := ⟨List.mem_of_getElem? (i := 1302) (by decide +kernel), good_of_word (by decide +kernel)⟩
set_option maxRecDepth 100000 in
theorem dw_1273 : lw_in (Cond.code yX3_keepIn cX3_keepIn 3 (some .boolean)) := ⟨List.mem_of_getElem? (i := 1303) rfl, good_of_word (by decide +kernel)⟩
theorem dw_1274 : lw_in (Cond.fieldLink RX3 17 "GuessFerry$Past" "slots" "[LGuessFerry$Standing;") := ⟨List.mem_of_getElem? (i := 513) (by decide +kernel), good_of_word (by decide +kernel)⟩
theorem dw_1275 : lw_in (Cond.selects RX10 yX10_hold yX10_hold) := ⟨List.mem_of_getElem? (i := 1298) (by decide +kernel), good_of_word (by decide +kernel)⟩
theorem dw_1276 : lw_in (Cond.instanceMethod yX10_hold) := ⟨List.mem_of_getElem? (i := 1297) (by decide +kernel), good_of_word (by decide +kernel)⟩
theorem dw_1277 : lw_in (Cond.methodLink R_law 198 yX10_hold) := ⟨List.mem_of_getElem? (i := 1296) (by decide +kernel), good_of_word (by decide +kernel)⟩
set_option maxRecDepth 100000 in
theorem dw_1278 : lw_in (Cond.code yX11_hold cX11_hold 3 (some .boolean)) := ⟨List.mem_of_getElem? (i := 1991) rfl, good_of_word (by decide +kernel)⟩
theorem dw_1279 : lw_in (Cond.fieldLink RX11 131 "GuessFerryModel" "heldRows" "[I") := ⟨List.mem_of_getElem? (i := 1420) (by decide +kernel), good_of_word (by decide +kernel)⟩
theorem dw_1280 : lw_in (Cond.selects RX11 yX11_hold yX11_hold) := ⟨List.mem_of_getElem? (i := 1990) (by decide +kernel), good_of_word (by decide +kernel)⟩
theorem dw_1281 : lw_in (Cond.instanceMethod yX11_hold) := ⟨List.mem_of_getElem? (i := 1989) (by decide +kernel), good_of_word (by decide +kernel)⟩
theorem dw_1282 : lw_in (Cond.methodLink R_law 201 yX11_hold) := ⟨List.mem_of_getElem? (i := 1988) (by decide +kernel), good_of_word (by decide +kernel)⟩
set_option maxRecDepth 100000 in
theorem dw_1283 : lw_in (Cond.code yX10_restore cX10_restore 2 (some .boolean)) := ⟨List.mem_of_getElem? (i := 1307) rfl, good_of_word (by decide +kernel)⟩
theorem dw_1284 : lw_in (Cond.selects RX3 yX3_goOnFrom yX3_goOnFrom) := ⟨List.mem_of_getElem? (i := 95) (by decide +kernel), good_of_word (by decide +kernel)⟩
theorem dw_1285 : lw_in (Cond.instanceMethod yX3_goOnFrom) := ⟨List.mem_of_getElem? (i := 1310) (by decide +kernel), good_of_word (by decide +kernel)⟩
set_option maxRecDepth 100000 in
theorem dw_1286 : lw_in (Cond.code yX3_goOnFrom cX3_goOnFrom 3 (some .boolean)) := ⟨List.mem_of_getElem? (i := 1311) rfl, good_of_word (by decide +kernel)⟩
theorem dw_1287 : lw_in (Cond.selects RX10 yX10_restore yX10_restore) := ⟨List.mem_of_getElem? (i := 1306) (by decide +kernel), good_of_word (by decide +kernel)⟩
theorem dw_1288 : lw_in (Cond.instanceMethod yX10_restore) := ⟨List.mem_of_getElem? (i := 1305) (by decide +kernel), good_of_word (by decide +kernel)⟩
theorem dw_1289 : lw_in (Cond.methodLink R_law 202 yX10_restore) := ⟨List.mem_of_getElem? (i := 1304) (by decide +kernel), good_of_word (by decide +kernel)⟩
set_option maxRecDepth 100000 in
theorem dw_1290 : lw_in (Cond.code yX11_restore cX11_restore 3 (some .boolean)) := ⟨List.mem_of_getElem? (i := 1995) rfl, good_of_word (by decide +kernel)⟩
theorem dw_1291 : lw_in (Cond.selects RX11 yX11_restore yX11_restore) := ⟨List.mem_of_getElem? (i := 1994) (by decide +kernel), good_of_word (by decide +kernel)⟩
theorem dw_1292 : lw_in (Cond.instanceMethod yX11_restore) := ⟨List.mem_of_getElem? (i := 1993) (by decide +kernel), good_of_word (by decide +kernel)⟩
theorem dw_1293 : lw_in (Cond.methodLink R_law 205 yX11_restore) := ⟨List.mem_of_getElem? (i := 1992) (by decide +kernel), good_of_word (by decide +kernel)⟩
set_option maxRecDepth 100000 in
theorem dw_1294 : lw_in (Cond.code yX10_count cX10_count 2 (some .int)) := ⟨List.mem_of_getElem? (i := 1315) rfl, good_of_word (by decide +kernel)⟩
theorem dw_1295 : lw_in (Cond.selects RX10 yX10_faresOfAllHere yX10_faresOfAllHere) := ⟨List.mem_of_getElem? (i := 100) (by decide +kernel), good_of_word (by decide +kernel)⟩
theorem dw_1296 : lw_in (Cond.instanceMethod yX10_faresOfAllHere) := ⟨List.mem_of_getElem? (i := 1337) (by decide +kernel), good_of_word (by decide +kernel)⟩
theorem dw_1297 : lw_in (Cond.methodLink RX10 311 yX10_faresOfAllHere) := ⟨List.mem_of_getElem? (i := 1335) (by decide +kernel), good_of_word (by decide +kernel)⟩
theorem dw_1298 : lw_in (Cond.selects RX10 yX10_wavesWithNothing yX10_wavesWithNothing) := ⟨List.mem_of_getElem? (i := 99) (by decide +kernel), good_of_word (by decide +kernel)⟩
theorem dw_1299 : lw_in (Cond.instanceMethod yX10_wavesWithNothing) := ⟨List.mem_of_getElem? (i := 1333) (by decide +kernel), good_of_word (by decide +kernel)⟩
theorem dw_1300 : lw_in (Cond.methodLink RX10 308 yX10_wavesWithNothing) := ⟨List.mem_of_getElem? (i := 1331) (by decide +kernel), good_of_word (by decide +kernel)⟩
theorem dw_1301 : lw_in (Cond.selects RX10 yX10_wavesFound yX10_wavesFound) := ⟨List.mem_of_getElem? (i := 98) (by decide +kernel), good_of_word (by decide +kernel)⟩
theorem dw_1302 : lw_in (Cond.instanceMethod yX10_wavesFound) := ⟨List.mem_of_getElem? (i := 1329) (by decide +kernel), good_of_word (by decide +kernel)⟩
theorem dw_1303 : lw_in (Cond.methodLink RX10 302 yX10_wavesFound) := ⟨List.mem_of_getElem? (i := 1327) (by decide +kernel), good_of_word (by decide +kernel)⟩
theorem dw_1304 : lw_in (Cond.selects RX10 yX10_buoysLying yX10_buoysLying) := ⟨List.mem_of_getElem? (i := 97) (by decide +kernel), good_of_word (by decide +kernel)⟩
theorem dw_1305 : lw_in (Cond.instanceMethod yX10_buoysLying) := ⟨List.mem_of_getElem? (i := 1325) (by decide +kernel), good_of_word (by decide +kernel)⟩
theorem dw_1306 : lw_in (Cond.methodLink RX10 299 yX10_buoysLying) := ⟨List.mem_of_getElem? (i := 1323) (by decide +kernel), good_of_word (by decide +kernel)⟩
theorem dw_1307 : lw_in (Cond.selects RX3 yX3_slotsHeld yX3_slotsHeld) := ⟨List.mem_of_getElem? (i := 96) (by decide +kernel), good_of_word (by decide +kernel)⟩
theorem dw_1308 : lw_in (Cond.instanceMethod yX3_slotsHeld) := ⟨List.mem_of_getElem? (i := 1321) (by decide +kernel), good_of_word (by decide +kernel)⟩
theorem dw_1309 : lw_in (Cond.static yX10_sumOf) := ⟨List.mem_of_getElem? (i := 1317) (by decide +kernel), good_of_word (by decide +kernel)⟩
theorem dw_1310 : lw_in (Cond.methodLink RX10 289 yX10_sumOf) := ⟨List.mem_of_getElem? (i := 1316) (by decide +kernel), good_of_word (by decide +kernel)⟩
set_option maxRecDepth 100000 in
theorem dw_1311 : lw_in (Cond.code yX10_sumOf cX10_sumOf 3 (some .int)) := ⟨List.mem_of_getElem? (i := 1318) rfl, good_of_word (by decide +kernel)⟩
set_option maxRecDepth 100000 in
theorem dw_1312 : lw_in (Cond.code yX3_slotsHeld cX3_slotsHeld 3 (some .int)) := ⟨List.mem_of_getElem? (i := 1322) rfl, good_of_word (by decide +kernel)⟩
set_option maxRecDepth 100000 in
theorem dw_1313 : lw_in (Cond.code yX10_buoysLying cX10_buoysLying 3 (some .int)) := ⟨List.mem_of_getElem? (i := 1326) rfl, good_of_word (by decide +kernel)⟩
set_option maxRecDepth 100000 in
theorem dw_1314 : lw_in (Cond.code yX10_wavesFound cX10_wavesFound 3 (some .int)) := ⟨List.mem_of_getElem? (i := 1330) rfl, good_of_word (by decide +kernel)⟩
set_option maxRecDepth 100000 in
theorem dw_1315 : lw_in (Cond.code yX10_wavesWithNothing cX10_wavesWithNothing 3 (some .int)) := ⟨List.mem_of_getElem? (i := 1334) rfl, good_of_word (by decide +kernel)⟩
set_option maxRecDepth 100000 in
theorem dw_1316 : lw_in (Cond.code yX10_faresOfAllHere cX10_faresOfAllHere 3 (some .int)) := ⟨List.mem_of_getElem? (i := 1338) rfl, good_of_word (by decide +kernel)⟩
theorem dw_1317 : lw_in (Cond.selects RX10 yX10_count yX10_count) := ⟨List.mem_of_getElem? (i := 1314) (by decide +kernel), good_of_word (by decide +kernel)⟩
theorem dw_1318 : lw_in (Cond.instanceMethod yX10_count) := ⟨List.mem_of_getElem? (i := 1313) (by decide +kernel), good_of_word (by decide +kernel)⟩
theorem dw_1319 : lw_in (Cond.methodLink R_law 206 yX10_count) := ⟨List.mem_of_getElem? (i := 1312) (by decide +kernel), good_of_word (by decide +kernel)⟩
set_option maxRecDepth 100000 in
theorem dw_1320 : lw_in (Cond.code yX11_count cX11_count 4 (some .int)) := ⟨List.mem_of_getElem? (i := 1999) rfl, good_of_word (by decide +kernel)⟩
theorem dw_1321 : lw_in (Cond.selects RX11 yX11_sumNow yX11_sumNow) := ⟨List.mem_of_getElem? (i := 167) (by decide +kernel), good_of_word (by decide +kernel)⟩
theorem dw_1322 : lw_in (Cond.instanceMethod yX11_sumNow) := ⟨List.mem_of_getElem? (i := 2006) (by decide +kernel), good_of_word (by decide +kernel)⟩
theorem dw_1323 : lw_in (Cond.methodLink RX11 434 yX11_sumNow) := ⟨List.mem_of_getElem? (i := 2004) (by decide +kernel), good_of_word (by decide +kernel)⟩
theorem dw_1324 : lw_in (Cond.selects RX11 yX11_partiesIn yX11_partiesIn) := ⟨List.mem_of_getElem? (i := 166) (by decide +kernel), good_of_word (by decide +kernel)⟩
theorem dw_1325 : lw_in (Cond.instanceMethod yX11_partiesIn) := ⟨List.mem_of_getElem? (i := 2002) (by decide +kernel), good_of_word (by decide +kernel)⟩
theorem dw_1326 : lw_in (Cond.methodLink RX11 431 yX11_partiesIn) := ⟨List.mem_of_getElem? (i := 2000) (by decide +kernel), good_of_word (by decide +kernel)⟩
set_option maxRecDepth 100000 in
theorem dw_1327 : lw_in (Cond.code yX11_partiesIn cX11_partiesIn 4 (some .int)) := ⟨List.mem_of_getElem? (i := 2003) rfl, good_of_word (by decide +kernel)⟩
set_option maxRecDepth 100000 in
theorem dw_1328 : lw_in (Cond.code yX11_sumNow cX11_sumNow 5 (some .int)) := ⟨List.mem_of_getElem? (i := 2007) rfl, good_of_word (by decide +kernel)⟩
theorem dw_1329 : lw_in (Cond.selects RX11 yX11_count yX11_count) := ⟨List.mem_of_getElem? (i := 1998) (by decide +kernel), good_of_word (by decide +kernel)⟩
theorem dw_1330 : lw_in (Cond.instanceMethod yX11_count) := ⟨List.mem_of_getElem? (i := 1997) (by decide +kernel), good_of_word (by decide +kernel)⟩
theorem dw_1331 : lw_in (Cond.methodLink R_law 209 yX11_count) := ⟨List.mem_of_getElem? (i := 1996) (by decide +kernel), good_of_word (by decide +kernel)⟩
set_option maxRecDepth 100000 in
theorem dw_1332 : lw_in (Cond.code yX10_init cX10_init 1 none) := ⟨List.mem_of_getElem? (i := 194) rfl, good_of_word (by decide +kernel)⟩
theorem dw_1333 : lw_in (Cond.instanceMethod yX8_init) := ⟨List.mem_of_getElem? (i := 571) (by decide +kernel), good_of_word (by decide +kernel)⟩
theorem dw_1334 : lw_in (Cond.instanceMethod yX2_init) := ⟨List.mem_of_getElem? (i := 546) (by decide +kernel), good_of_word (by decide +kernel)⟩
theorem dw_1335 : lw_in (Cond.instanceMethod yX0_init) := ⟨List.mem_of_getElem? (i := 533) (by decide +kernel), good_of_word (by decide +kernel)⟩
theorem dw_1336 : lw_in (Cond.instanceMethod yX3_init) := ⟨List.mem_of_getElem? (i := 506) (by decide +kernel), good_of_word (by decide +kernel)⟩
theorem dw_1337 : lw_in (Cond.instanceMethod yX4_init) := ⟨List.mem_of_getElem? (i := 339) (by decide +kernel), good_of_word (by decide +kernel)⟩
theorem dw_1338 : lw_in (Cond.instanceMethod yX7_init) := ⟨List.mem_of_getElem? (i := 201) (by decide +kernel), good_of_word (by decide +kernel)⟩
theorem dw_1339 : lw_in (Cond.instantiable RX8 8) := ⟨List.mem_of_getElem? (i := 569) (by decide +kernel), good_of_word (by decide +kernel)⟩
theorem dw_1340 : lw_in (Cond.classLink RX10 67 RX8) := ⟨List.mem_of_getElem? (i := 568) (by decide +kernel), good_of_word (by decide +kernel)⟩
theorem dw_1341 : lw_in (Cond.instantiable RX2 6) := ⟨List.mem_of_getElem? (i := 544) (by decide +kernel), good_of_word (by decide +kernel)⟩
theorem dw_1342 : lw_in (Cond.classLink RX10 58 RX2) := ⟨List.mem_of_getElem? (i := 543) (by decide +kernel), good_of_word (by decide +kernel)⟩
theorem dw_1343 : lw_in (Cond.instantiable RX0 2) := ⟨List.mem_of_getElem? (i := 531) (by decide +kernel), good_of_word (by decide +kernel)⟩
theorem dw_1344 : lw_in (Cond.classLink RX10 49 RX0) := ⟨List.mem_of_getElem? (i := 530) (by decide +kernel), good_of_word (by decide +kernel)⟩
theorem dw_1345 : lw_in (Cond.instantiable RX3 5) := ⟨List.mem_of_getElem? (i := 504) (by decide +kernel), good_of_word (by decide +kernel)⟩
theorem dw_1346 : lw_in (Cond.classLink RX10 42 RX3) := ⟨List.mem_of_getElem? (i := 503) (by decide +kernel), good_of_word (by decide +kernel)⟩
theorem dw_1347 : lw_in (Cond.classLink RX10 32 RX6) := ⟨List.mem_of_getElem? (i := 458) (by decide +kernel), good_of_word (by decide +kernel)⟩
theorem dw_1348 : lw_in (Cond.instantiable RX4 8) := ⟨List.mem_of_getElem? (i := 337) (by decide +kernel), good_of_word (by decide +kernel)⟩
theorem dw_1349 : lw_in (Cond.classLink RX10 23 RX4) := ⟨List.mem_of_getElem? (i := 336) (by decide +kernel), good_of_word (by decide +kernel)⟩
theorem dw_1350 : lw_in (Cond.classLink RX10 16 RX5) := ⟨List.mem_of_getElem? (i := 214) (by decide +kernel), good_of_word (by decide +kernel)⟩
theorem dw_1351 : lw_in (Cond.instantiable RX7 2) := ⟨List.mem_of_getElem? (i := 199) (by decide +kernel), good_of_word (by decide +kernel)⟩
theorem dw_1352 : lw_in (Cond.classLink RX10 7 RX7) := ⟨List.mem_of_getElem? (i := 198) (by decide +kernel), good_of_word (by decide +kernel)⟩
theorem dw_1353 : lw_in (Cond.methodLink RX10 1 objectInit) := ⟨List.mem_of_getElem? (i := 195) (by decide +kernel), good_of_word (by decide +kernel)⟩
set_option maxRecDepth 100000 in
theorem dw_1354 : lw_in (Cond.code yX7_init cX7_init 1 none) := ⟨List.mem_of_getElem? (i := 202) rfl, good_of_word (by decide +kernel)⟩
theorem dw_1355 : lw_in (Cond.arrayClass .byte) := ⟨List.mem_of_getElem? (i := 213) (by decide +kernel), good_of_word (by decide +kernel)⟩
set_option maxRecDepth 100000 in
theorem dw_1356 : lw_in (Cond.code objectInit ⟨#[0xb1]⟩ 1 none) := ⟨List.mem_of_getElem? (i := 197) rfl, good_of_word (by decide +kernel)⟩
theorem dw_1357 : lw_in (Cond.instanceMethod objectInit) := ⟨List.mem_of_getElem? (i := 196) (by decide +kernel), good_of_word (by decide +kernel)⟩
theorem dw_1358 : lw_in (Cond.methodLink RX7 3 objectInit) := ⟨List.mem_of_getElem? (i := 203) (by decide +kernel), good_of_word (by decide +kernel)⟩
set_option maxRecDepth 100000 in
theorem dw_1359 : lw_in (Cond.code yX5_init cX5_init 1 none) := ⟨List.mem_of_getElem? (i := 218) rfl, good_of_word (by decide +kernel)⟩
theorem dw_1360 : lw_in (Cond.methodLink RX5 34 yX5_clear) := ⟨List.mem_of_getElem? (i := 256) (by decide +kernel), good_of_word (by decide +kernel)⟩
theorem dw_1361 : lw_in (Cond.instanceMethod yX1_init) := ⟨List.mem_of_getElem? (i := 223) (by decide +kernel), good_of_word (by decide +kernel)⟩
theorem dw_1362 : lw_in (Cond.instantiable RX1 9) := ⟨List.mem_of_getElem? (i := 221) (by decide +kernel), good_of_word (by decide +kernel)⟩
theorem dw_1363 : lw_in (Cond.classLink RX5 27 RX1) := ⟨List.mem_of_getElem? (i := 220) (by decide +kernel), good_of_word (by decide +kernel)⟩
theorem dw_1364 : lw_in (Cond.methodLink RX5 3 objectInit) := ⟨List.mem_of_getElem? (i := 219) (by decide +kernel), good_of_word (by decide +kernel)⟩
set_option maxRecDepth 100000 in
theorem dw_1365 : lw_in (Cond.code yX1_init cX1_init 1 none) := ⟨List.mem_of_getElem? (i := 224) rfl, good_of_word (by decide +kernel)⟩
theorem dw_1366 : lw_in (Cond.arrayClass .int) := ⟨List.mem_of_getElem? (i := 255) (by decide +kernel), good_of_word (by decide +kernel)⟩
theorem dw_1367 : lw_in (Cond.methodLink RX1 9 objectInit) := ⟨List.mem_of_getElem? (i := 225) (by decide +kernel), good_of_word (by decide +kernel)⟩
set_option maxRecDepth 100000 in
theorem dw_1368 : lw_in (Cond.code yX4_init cX4_init 2 none) := ⟨List.mem_of_getElem? (i := 340) rfl, good_of_word (by decide +kernel)⟩
theorem dw_1369 : lw_in (Cond.instanceMethod yX9_init) := ⟨List.mem_of_getElem? (i := 347) (by decide +kernel), good_of_word (by decide +kernel)⟩
theorem dw_1370 : lw_in (Cond.instanceMethod yX5_init) := ⟨List.mem_of_getElem? (i := 217) (by decide +kernel), good_of_word (by decide +kernel)⟩
theorem dw_1371 : lw_in (Cond.instantiable RX9 7) := ⟨List.mem_of_getElem? (i := 345) (by decide +kernel), good_of_word (by decide +kernel)⟩
theorem dw_1372 : lw_in (Cond.classLink RX4 26 RX9) := ⟨List.mem_of_getElem? (i := 344) (by decide +kernel), good_of_word (by decide +kernel)⟩
theorem dw_1373 : lw_in (Cond.instantiable RX5 10) := ⟨List.mem_of_getElem? (i := 215) (by decide +kernel), good_of_word (by decide +kernel)⟩
theorem dw_1374 : lw_in (Cond.classLink RX4 9 RX5) := ⟨List.mem_of_getElem? (i := 342) (by decide +kernel), good_of_word (by decide +kernel)⟩
theorem dw_1375 : lw_in (Cond.methodLink RX4 3 objectInit) := ⟨List.mem_of_getElem? (i := 341) (by decide +kernel), good_of_word (by decide +kernel)⟩
set_option maxRecDepth 100000 in
theorem dw_1376 : lw_in (Cond.code yX9_init cX9_init 7 none) := ⟨List.mem_of_getElem? (i := 348) rfl, good_of_word (by decide +kernel)⟩
theorem dw_1377 : lw_in (Cond.selects RJ0 yJ0_charAt_5068e yJ0_charAt_5068e) := ⟨List.mem_of_getElem? (i := 363) (by decide +kernel), good_of_word (by decide +kernel)⟩
theorem dw_1378 : lw_in (Cond.instanceMethod yJ0_charAt_5068e) := ⟨List.mem_of_getElem? (i := 362) (by decide +kernel), good_of_word (by decide +kernel)⟩
theorem dw_1379 : lw_in (Cond.methodLink RX9 35 yJ0_charAt_5068e) := ⟨List.mem_of_getElem? (i := 361) (by decide +kernel), good_of_word (by decide +kernel)⟩
theorem dw_1380 : lw_in (Cond.methodLink RX9 29 yJ0_length_8abf5) := ⟨List.mem_of_getElem? (i := 351) (by decide +kernel), good_of_word (by decide +kernel)⟩
theorem dw_1381 : lw_in (Cond.arrayClass .long) := ⟨List.mem_of_getElem? (i := 430) (by decide +kernel), good_of_word (by decide +kernel)⟩
theorem dw_1382 : lw_in (Cond.methodLink RX9 3 objectInit) := ⟨List.mem_of_getElem? (i := 349) (by decide +kernel), good_of_word (by decide +kernel)⟩
set_option maxRecDepth 100000 in
theorem dw_1383 : lw_in (Cond.code yJ0_charAt_5068e cJ0_charAt_5068e 2 (some .char)) := ⟨List.mem_of_getElem? (i := 364) rfl, good_of_word (by decide +kernel)⟩
theorem dw_1384 : lw_in (Cond.static yJ2_charAt_3b067) := ⟨List.mem_of_getElem? (i := 381) (by decide +kernel), good_of_word (by decide +kernel)⟩
theorem dw_1385 : lw_in (Cond.methodLink RJ0 498 yJ2_charAt_3b067) := ⟨List.mem_of_getElem? (i := 380) (by decide +kernel), good_of_word (by decide +kernel)⟩
theorem dw_1386 : lw_in (Cond.static yJ1_charAt_3b067) := ⟨List.mem_of_getElem? (i := 370) (by decide +kernel), good_of_word (by decide +kernel)⟩
theorem dw_1387 : lw_in (Cond.methodLink RJ0 495 yJ1_charAt_3b067) := ⟨List.mem_of_getElem? (i := 369) (by decide +kernel), good_of_word (by decide +kernel)⟩
set_option maxRecDepth 100000 in
theorem dw_1388 : lw_in (Cond.code yJ1_charAt_3b067 cJ1_charAt_3b067 2 (some .char)) := ⟨List.mem_of_getElem? (i := 371) rfl, good_of_word (by decide +kernel)⟩
theorem dw_1389 : lw_in (Cond.static yJ0_checkIndex_df160) := ⟨List.mem_of_getElem? (i := 373) (by decide +kernel), good_of_word (by decide +kernel)⟩
theorem dw_1390 : lw_in (Cond.methodLink RJ1 9 yJ0_checkIndex_df160) := ⟨List.mem_of_getElem? (i := 372) (by decide +kernel), good_of_word (by decide +kernel)⟩
set_option maxRecDepth 100000 in
theorem dw_1391 : lw_in (Cond.code yJ0_checkIndex_df160 cJ0_checkIndex_df160 2 none) := ⟨List.mem_of_getElem? (i := 374) rfl, good_of_word (by decide +kernel)⟩
theorem dw_1392 : lw_in (Cond.static yJ3_checkIndex_8e157) := ⟨List.mem_of_getElem? (i := 378) (by decide +kernel), good_of_word (by decide +kernel)⟩
theorem dw_1393 : lw_in (Cond.methodLink RJ0 1059 yJ3_checkIndex_8e157) := ⟨List.mem_of_getElem? (i := 377) (by decide +kernel), good_of_word (by decide +kernel)⟩
set_option maxRecDepth 100000 in
theorem dw_1394 : lw_in (Cond.code yJ3_checkIndex_8e157 cJ3_checkIndex_8e157 3 (some .int)) := ⟨List.mem_of_getElem? (i := 379) rfl, good_of_word (by decide +kernel)⟩
set_option maxRecDepth 100000 in
theorem dw_1395 : lw_in (Cond.code yJ2_charAt_3b067 cJ2_charAt_3b067 2 (some .char)) := ⟨List.mem_of_getElem? (i := 382) rfl, good_of_word (by decide +kernel)⟩
theorem dw_1396 : lw_in (Cond.static yJ2_checkIndex_2214a) := ⟨List.mem_of_getElem? (i := 384) (by decide +kernel), good_of_word (by decide +kernel)⟩
theorem dw_1397 : lw_in (Cond.methodLink RJ2 67 yJ2_checkIndex_2214a) := ⟨List.mem_of_getElem? (i := 383) (by decide +kernel), good_of_word (by decide +kernel)⟩
set_option maxRecDepth 100000 in
theorem dw_1398 : lw_in (Cond.code yJ2_checkIndex_2214a cJ2_checkIndex_2214a 2 none) := ⟨List.mem_of_getElem? (i := 385) rfl, good_of_word (by decide +kernel)⟩
theorem dw_1399 : lw_in (Cond.methodLink RJ2 414 yJ0_checkIndex_df160) := ⟨List.mem_of_getElem? (i := 389) (by decide +kernel), good_of_word (by decide +kernel)⟩
set_option maxRecDepth 100000 in
theorem dw_1400 : lw_in (Cond.code yX6_init cX6_init 1 none) := ⟨List.mem_of_getElem? (i := 462) rfl, good_of_word (by decide +kernel)⟩
theorem dw_1401 : lw_in (Cond.methodLink RX6 3 objectInit) := ⟨List.mem_of_getElem? (i := 463) (by decide +kernel), good_of_word (by decide +kernel)⟩
set_option maxRecDepth 100000 in
theorem dw_1402 : lw_in (Cond.code yX3_init cX3_init 2 none) := ⟨List.mem_of_getElem? (i := 507) rfl, good_of_word (by decide +kernel)⟩
theorem dw_1403 : lw_in (Cond.instanceMethod yX6_init) := ⟨List.mem_of_getElem? (i := 461) (by decide +kernel), good_of_word (by decide +kernel)⟩
theorem dw_1404 : lw_in (Cond.instantiable RX6 7) := ⟨List.mem_of_getElem? (i := 459) (by decide +kernel), good_of_word (by decide +kernel)⟩
theorem dw_1405 : lw_in (Cond.arrayClass .boolean) := ⟨List.mem_of_getElem? (i := 529) (by decide +kernel), good_of_word (by decide +kernel)⟩
theorem dw_1406 : lw_in (Cond.classLink RX3 9 RX6) := ⟨List.mem_of_getElem? (i := 509) (by decide +kernel), good_of_word (by decide +kernel)⟩
theorem dw_1407 : lw_in (Cond.methodLink RX3 3 objectInit) := ⟨List.mem_of_getElem? (i := 508) (by decide +kernel), good_of_word (by decide +kernel)⟩
set_option maxRecDepth 100000 in
theorem dw_1408 : lw_in (Cond.code yX0_init cX0_init 2 none) := ⟨List.mem_of_getElem? (i := 534) rfl, good_of_word (by decide +kernel)⟩
theorem dw_1409 : lw_in (Cond.methodLink RX0 3 objectInit) := ⟨List.mem_of_getElem? (i := 535) (by decide +kernel), good_of_word (by decide +kernel)⟩
set_option maxRecDepth 100000 in
theorem dw_1410 : lw_in (Cond.code yX2_init cX2_init 3 none) := ⟨List.mem_of_getElem? (i := 547) rfl, good_of_word (by decide +kernel)⟩
theorem dw_1411 : lw_in (Cond.methodLink RX2 3 objectInit) := ⟨List.mem_of_getElem? (i := 548) (by decide +kernel), good_of_word (by decide +kernel)⟩
set_option maxRecDepth 100000 in
theorem dw_1412 : lw_in (Cond.code yX8_init cX8_init 3 none) := ⟨List.mem_of_getElem? (i := 572) rfl, good_of_word (by decide +kernel)⟩
theorem dw_1413 : lw_in (Cond.methodLink RX8 3 objectInit) := ⟨List.mem_of_getElem? (i := 573) (by decide +kernel), good_of_word (by decide +kernel)⟩
set_option maxRecDepth 100000 in
theorem dw_1414 : lw_in (Cond.code yX11_init cX11_init 1 none) := ⟨List.mem_of_getElem? (i := 1343) rfl, good_of_word (by decide +kernel)⟩
theorem dw_1415 : lw_in (Cond.static yX11_word) := ⟨List.mem_of_getElem? (i := 1350) (by decide +kernel), good_of_word (by decide +kernel)⟩
theorem dw_1416 : lw_in (Cond.methodLink RX11 138 yX11_word) := ⟨List.mem_of_getElem? (i := 1349) (by decide +kernel), good_of_word (by decide +kernel)⟩
theorem dw_1417 : lw_in (Cond.methodLink RX11 7 objectInit) := ⟨List.mem_of_getElem? (i := 1344) (by decide +kernel), good_of_word (by decide +kernel)⟩
set_option maxRecDepth 100000 in
theorem dw_1418 : lw_in (Cond.code yX11_word cX11_word 7 (some .long)) := ⟨List.mem_of_getElem? (i := 1351) rfl, good_of_word (by decide +kernel)⟩
