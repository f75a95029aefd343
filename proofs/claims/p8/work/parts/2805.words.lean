theorem dw_1250 : lw_in (Cond.selects RX11 yX11_lie yX11_lie) := ⟨lw_t (tm_8 (List.mem_of_getElem? (i := 130) rfl)), good_of_word (by decide +kernel)⟩
theorem dw_1251 : lw_in (Cond.instanceMethod yX11_lie) := ⟨lw_t (tm_8 (List.mem_of_getElem? (i := 129) rfl)), good_of_word (by decide +kernel)⟩
theorem dw_1252 : lw_in (Cond.methodLink R_law 193 yX11_lie) := ⟨lw_t (tm_8 (List.mem_of_getElem? (i := 128) rfl)), good_of_word (by decide +kernel)⟩
set_option maxRecDepth 100000 in
theorem dw_1253 : lw_in (Cond.code yX10_ask cX10_ask 3 (some .int)) := ⟨lw_t (tm_5 (List.mem_of_getElem? (i := 162) rfl)), good_of_word (by decide +kernel)⟩
theorem dw_1254 : lw_in (Cond.selects RX8 yX8_waveToAsk yX8_waveToAsk) := ⟨List.mem_of_getElem? (i := 93) rfl, good_of_word (by decide +kernel)⟩
theorem dw_1255 : lw_in (Cond.instanceMethod yX8_waveToAsk) := ⟨lw_t (tm_5 (List.mem_of_getElem? (i := 165) rfl)), good_of_word (by decide +kernel)⟩
set_option maxRecDepth 100000 in
theorem dw_1256 : lw_in (Cond.code yX8_waveToAsk cX8_waveToAsk 7 (some .int)) := ⟨lw_t (tm_5 (List.mem_of_getElem? (i := 166) rfl)), good_of_word (by decide +kernel)⟩
theorem dw_1257 : lw_in (Cond.methodLink RX8 83 Lib.Math.max.name) := ⟨lw_t (tm_5 (List.mem_of_getElem? (i := 167) rfl)), good_of_word (by decide +kernel)⟩
theorem dw_1258 : lw_in (Cond.selects RX10 yX10_ask yX10_ask) := ⟨lw_t (tm_5 (List.mem_of_getElem? (i := 161) rfl)), good_of_word (by decide +kernel)⟩
theorem dw_1259 : lw_in (Cond.instanceMethod yX10_ask) := ⟨lw_t (tm_5 (List.mem_of_getElem? (i := 160) rfl)), good_of_word (by decide +kernel)⟩
theorem dw_1260 : lw_in (Cond.methodLink R_law 194 yX10_ask) := ⟨lw_t (tm_5 (List.mem_of_getElem? (i := 159) rfl)), good_of_word (by decide +kernel)⟩
set_option maxRecDepth 100000 in
theorem dw_1261 : lw_in (Cond.code yX11_ask cX11_ask 6 (some .int)) := ⟨lw_t (tm_8 (List.mem_of_getElem? (i := 135) rfl)), good_of_word (by decide +kernel)⟩
theorem dw_1262 : lw_in (Cond.selects RX11 yX11_worstAt yX11_worstAt) := ⟨List.mem_of_getElem? (i := 165) rfl, good_of_word (by decide +kernel)⟩
theorem dw_1263 : lw_in (Cond.instanceMethod yX11_worstAt) := ⟨lw_t (tm_8 (List.mem_of_getElem? (i := 138) rfl)), good_of_word (by decide +kernel)⟩
theorem dw_1264 : lw_in (Cond.methodLink RX11 428 yX11_worstAt) := ⟨lw_t (tm_8 (List.mem_of_getElem? (i := 136) rfl)), good_of_word (by decide +kernel)⟩
theorem dw_1265 : lw_in (Cond.fieldLink RX11 125 "GuessFerryModel" "fitBy" "[I") := ⟨lw_t (tm_6 (List.mem_of_getElem? (i := 50) rfl)), good_of_word (by decide +kernel)⟩
set_option maxRecDepth 100000 in
theorem dw_1266 : lw_in (Cond.code yX11_worstAt cX11_worstAt 4 (some .int)) := ⟨lw_t (tm_8 (List.mem_of_getElem? (i := 139) rfl)), good_of_word (by decide +kernel)⟩
theorem dw_1267 : lw_in (Cond.selects RX11 yX11_ask yX11_ask) := ⟨lw_t (tm_8 (List.mem_of_getElem? (i := 134) rfl)), good_of_word (by decide +kernel)⟩
theorem dw_1268 : lw_in (Cond.instanceMethod yX11_ask) := ⟨lw_t (tm_8 (List.mem_of_getElem? (i := 133) rfl)), good_of_word (by decide +kernel)⟩
theorem dw_1269 : lw_in (Cond.methodLink R_law 197 yX11_ask) := ⟨lw_t (tm_8 (List.mem_of_getElem? (i := 132) rfl)), good_of_word (by decide +kernel)⟩
set_option maxRecDepth 100000 in
theorem dw_1270 : lw_in (Cond.code yX10_hold cX10_hold 2 (some .boolean)) := ⟨lw_t (tm_5 (List.mem_of_getElem? (i := 171) rfl)), good_of_word (by decide +kernel)⟩
theorem dw_1271 : lw_in (Cond.selects RX3 yX3_keepIn yX3_keepIn) := ⟨List.mem_of_getElem? (i := 94) rfl, good_of_word (by decide +kernel)⟩
theorem dw_1272 : lw_in (Cond.instanceMethod yX3_keepIn) := ⟨lw_t (tm_5 (List.mem_of_getElem? (i := 174) rfl)), good_of_word (by decide +kernel)⟩
set_option maxRecDepth 100000 in
theorem dw_1273 : lw_in (Cond.code yX3_keepIn cX3_keepIn 3 (some .boolean)) := ⟨lw_t (tm_5 (List.mem_of_getElem? (i := 175) rfl)), good_of_word (by decide +kernel)⟩
theorem dw_1274 : lw_in (Cond.fieldLink RX3 17 "GuessFerry$Past" "slots" "[LGuessFerry$Standing;") := ⟨lw_t (tm_2 (List.mem_of_getElem? (i := 105) rfl)), good_of_word (by decide +kernel)⟩
theorem dw_1275 : lw_in (Cond.selects RX10 yX10_hold yX10_hold) := ⟨lw_t (tm_5 (List.mem_of_getElem? (i := 170) rfl)), good_of_word (by decide +kernel)⟩
theorem dw_1276 : lw_in (Cond.instanceMethod yX10_hold) := ⟨lw_t (tm_5 (List.mem_of_getElem? (i := 169) rfl)), good_of_word (by decide +kernel)⟩
theorem dw_1277 : lw_in (Cond.methodLink R_law 198 yX10_hold) := ⟨lw_t (tm_5 (List.mem_of_getElem? (i := 168) rfl)), good_of_word (by decide +kernel)⟩
set_option maxRecDepth 100000 in
theorem dw_1278 : lw_in (Cond.code yX11_hold cX11_hold 3 (some .boolean)) := ⟨lw_t (tm_8 (List.mem_of_getElem? (i := 143) rfl)), good_of_word (by decide +kernel)⟩
theorem dw_1279 : lw_in (Cond.fieldLink RX11 131 "GuessFerryModel" "heldRows" "[I") := ⟨lw_t (tm_6 (List.mem_of_getElem? (i := 52) rfl)), good_of_word (by decide +kernel)⟩
theorem dw_1280 : lw_in (Cond.selects RX11 yX11_hold yX11_hold) := ⟨lw_t (tm_8 (List.mem_of_getElem? (i := 142) rfl)), good_of_word (by decide +kernel)⟩
theorem dw_1281 : lw_in (Cond.instanceMethod yX11_hold) := ⟨lw_t (tm_8 (List.mem_of_getElem? (i := 141) rfl)), good_of_word (by decide +kernel)⟩
theorem dw_1282 : lw_in (Cond.methodLink R_law 201 yX11_hold) := ⟨lw_t (tm_8 (List.mem_of_getElem? (i := 140) rfl)), good_of_word (by decide +kernel)⟩
set_option maxRecDepth 100000 in
theorem dw_1283 : lw_in (Cond.code yX10_restore cX10_restore 2 (some .boolean)) := ⟨lw_t (tm_5 (List.mem_of_getElem? (i := 179) rfl)), good_of_word (by decide +kernel)⟩
theorem dw_1284 : lw_in (Cond.selects RX3 yX3_goOnFrom yX3_goOnFrom) := ⟨List.mem_of_getElem? (i := 95) rfl, good_of_word (by decide +kernel)⟩
theorem dw_1285 : lw_in (Cond.instanceMethod yX3_goOnFrom) := ⟨lw_t (tm_5 (List.mem_of_getElem? (i := 182) rfl)), good_of_word (by decide +kernel)⟩
set_option maxRecDepth 100000 in
theorem dw_1286 : lw_in (Cond.code yX3_goOnFrom cX3_goOnFrom 3 (some .boolean)) := ⟨lw_t (tm_5 (List.mem_of_getElem? (i := 183) rfl)), good_of_word (by decide +kernel)⟩
theorem dw_1287 : lw_in (Cond.selects RX10 yX10_restore yX10_restore) := ⟨lw_t (tm_5 (List.mem_of_getElem? (i := 178) rfl)), good_of_word (by decide +kernel)⟩
theorem dw_1288 : lw_in (Cond.instanceMethod yX10_restore) := ⟨lw_t (tm_5 (List.mem_of_getElem? (i := 177) rfl)), good_of_word (by decide +kernel)⟩
theorem dw_1289 : lw_in (Cond.methodLink R_law 202 yX10_restore) := ⟨lw_t (tm_5 (List.mem_of_getElem? (i := 176) rfl)), good_of_word (by decide +kernel)⟩
set_option maxRecDepth 100000 in
theorem dw_1290 : lw_in (Cond.code yX11_restore cX11_restore 3 (some .boolean)) := ⟨lw_t (tm_8 (List.mem_of_getElem? (i := 147) rfl)), good_of_word (by decide +kernel)⟩
theorem dw_1291 : lw_in (Cond.selects RX11 yX11_restore yX11_restore) := ⟨lw_t (tm_8 (List.mem_of_getElem? (i := 146) rfl)), good_of_word (by decide +kernel)⟩
theorem dw_1292 : lw_in (Cond.instanceMethod yX11_restore) := ⟨lw_t (tm_8 (List.mem_of_getElem? (i := 145) rfl)), good_of_word (by decide +kernel)⟩
theorem dw_1293 : lw_in (Cond.methodLink R_law 205 yX11_restore) := ⟨lw_t (tm_8 (List.mem_of_getElem? (i := 144) rfl)), good_of_word (by decide +kernel)⟩
set_option maxRecDepth 100000 in
theorem dw_1294 : lw_in (Cond.code yX10_count cX10_count 2 (some .int)) := ⟨lw_t (tm_5 (List.mem_of_getElem? (i := 187) rfl)), good_of_word (by decide +kernel)⟩
theorem dw_1295 : lw_in (Cond.selects RX10 yX10_faresOfAllHere yX10_faresOfAllHere) := ⟨List.mem_of_getElem? (i := 100) rfl, good_of_word (by decide +kernel)⟩
theorem dw_1296 : lw_in (Cond.instanceMethod yX10_faresOfAllHere) := ⟨lw_t (tm_5 (List.mem_of_getElem? (i := 209) rfl)), good_of_word (by decide +kernel)⟩
theorem dw_1297 : lw_in (Cond.methodLink RX10 311 yX10_faresOfAllHere) := ⟨lw_t (tm_5 (List.mem_of_getElem? (i := 207) rfl)), good_of_word (by decide +kernel)⟩
theorem dw_1298 : lw_in (Cond.selects RX10 yX10_wavesWithNothing yX10_wavesWithNothing) := ⟨List.mem_of_getElem? (i := 99) rfl, good_of_word (by decide +kernel)⟩
theorem dw_1299 : lw_in (Cond.instanceMethod yX10_wavesWithNothing) := ⟨lw_t (tm_5 (List.mem_of_getElem? (i := 205) rfl)), good_of_word (by decide +kernel)⟩
theorem dw_1300 : lw_in (Cond.methodLink RX10 308 yX10_wavesWithNothing) := ⟨lw_t (tm_5 (List.mem_of_getElem? (i := 203) rfl)), good_of_word (by decide +kernel)⟩
theorem dw_1301 : lw_in (Cond.selects RX10 yX10_wavesFound yX10_wavesFound) := ⟨List.mem_of_getElem? (i := 98) rfl, good_of_word (by decide +kernel)⟩
theorem dw_1302 : lw_in (Cond.instanceMethod yX10_wavesFound) := ⟨lw_t (tm_5 (List.mem_of_getElem? (i := 201) rfl)), good_of_word (by decide +kernel)⟩
theorem dw_1303 : lw_in (Cond.methodLink RX10 302 yX10_wavesFound) := ⟨lw_t (tm_5 (List.mem_of_getElem? (i := 199) rfl)), good_of_word (by decide +kernel)⟩
theorem dw_1304 : lw_in (Cond.selects RX10 yX10_buoysLying yX10_buoysLying) := ⟨List.mem_of_getElem? (i := 97) rfl, good_of_word (by decide +kernel)⟩
theorem dw_1305 : lw_in (Cond.instanceMethod yX10_buoysLying) := ⟨lw_t (tm_5 (List.mem_of_getElem? (i := 197) rfl)), good_of_word (by decide +kernel)⟩
theorem dw_1306 : lw_in (Cond.methodLink RX10 299 yX10_buoysLying) := ⟨lw_t (tm_5 (List.mem_of_getElem? (i := 195) rfl)), good_of_word (by decide +kernel)⟩
theorem dw_1307 : lw_in (Cond.selects RX3 yX3_slotsHeld yX3_slotsHeld) := ⟨List.mem_of_getElem? (i := 96) rfl, good_of_word (by decide +kernel)⟩
theorem dw_1308 : lw_in (Cond.instanceMethod yX3_slotsHeld) := ⟨lw_t (tm_5 (List.mem_of_getElem? (i := 193) rfl)), good_of_word (by decide +kernel)⟩
theorem dw_1309 : lw_in (Cond.static yX10_sumOf) := ⟨lw_t (tm_5 (List.mem_of_getElem? (i := 189) rfl)), good_of_word (by decide +kernel)⟩
theorem dw_1310 : lw_in (Cond.methodLink RX10 289 yX10_sumOf) := ⟨lw_t (tm_5 (List.mem_of_getElem? (i := 188) rfl)), good_of_word (by decide +kernel)⟩
set_option maxRecDepth 100000 in
theorem dw_1311 : lw_in (Cond.code yX10_sumOf cX10_sumOf 3 (some .int)) := ⟨lw_t (tm_5 (List.mem_of_getElem? (i := 190) rfl)), good_of_word (by decide +kernel)⟩
set_option maxRecDepth 100000 in
theorem dw_1312 : lw_in (Cond.code yX3_slotsHeld cX3_slotsHeld 3 (some .int)) := ⟨lw_t (tm_5 (List.mem_of_getElem? (i := 194) rfl)), good_of_word (by decide +kernel)⟩
set_option maxRecDepth 100000 in
theorem dw_1313 : lw_in (Cond.code yX10_buoysLying cX10_buoysLying 3 (some .int)) := ⟨lw_t (tm_5 (List.mem_of_getElem? (i := 198) rfl)), good_of_word (by decide +kernel)⟩
set_option maxRecDepth 100000 in
theorem dw_1314 : lw_in (Cond.code yX10_wavesFound cX10_wavesFound 3 (some .int)) := ⟨lw_t (tm_5 (List.mem_of_getElem? (i := 202) rfl)), good_of_word (by decide +kernel)⟩
set_option maxRecDepth 100000 in
theorem dw_1315 : lw_in (Cond.code yX10_wavesWithNothing cX10_wavesWithNothing 3 (some .int)) := ⟨lw_t (tm_5 (List.mem_of_getElem? (i := 206) rfl)), good_of_word (by decide +kernel)⟩
set_option maxRecDepth 100000 in
theorem dw_1316 : lw_in (Cond.code yX10_faresOfAllHere cX10_faresOfAllHere 3 (some .int)) := ⟨lw_t (tm_5 (List.mem_of_getElem? (i := 210) rfl)), good_of_word (by decide +kernel)⟩
theorem dw_1317 : lw_in (Cond.selects RX10 yX10_count yX10_count) := ⟨lw_t (tm_5 (List.mem_of_getElem? (i := 186) rfl)), good_of_word (by decide +kernel)⟩
theorem dw_1318 : lw_in (Cond.instanceMethod yX10_count) := ⟨lw_t (tm_5 (List.mem_of_getElem? (i := 185) rfl)), good_of_word (by decide +kernel)⟩
theorem dw_1319 : lw_in (Cond.methodLink R_law 206 yX10_count) := ⟨lw_t (tm_5 (List.mem_of_getElem? (i := 184) rfl)), good_of_word (by decide +kernel)⟩
set_option maxRecDepth 100000 in
theorem dw_1320 : lw_in (Cond.code yX11_count cX11_count 4 (some .int)) := ⟨lw_t (tm_8 (List.mem_of_getElem? (i := 151) rfl)), good_of_word (by decide +kernel)⟩
theorem dw_1321 : lw_in (Cond.selects RX11 yX11_sumNow yX11_sumNow) := ⟨List.mem_of_getElem? (i := 167) rfl, good_of_word (by decide +kernel)⟩
theorem dw_1322 : lw_in (Cond.instanceMethod yX11_sumNow) := ⟨lw_t (tm_8 (List.mem_of_getElem? (i := 158) rfl)), good_of_word (by decide +kernel)⟩
theorem dw_1323 : lw_in (Cond.methodLink RX11 434 yX11_sumNow) := ⟨lw_t (tm_8 (List.mem_of_getElem? (i := 156) rfl)), good_of_word (by decide +kernel)⟩
theorem dw_1324 : lw_in (Cond.selects RX11 yX11_partiesIn yX11_partiesIn) := ⟨List.mem_of_getElem? (i := 166) rfl, good_of_word (by decide +kernel)⟩
theorem dw_1325 : lw_in (Cond.instanceMethod yX11_partiesIn) := ⟨lw_t (tm_8 (List.mem_of_getElem? (i := 154) rfl)), good_of_word (by decide +kernel)⟩
theorem dw_1326 : lw_in (Cond.methodLink RX11 431 yX11_partiesIn) := ⟨lw_t (tm_8 (List.mem_of_getElem? (i := 152) rfl)), good_of_word (by decide +kernel)⟩
set_option maxRecDepth 100000 in
theorem dw_1327 : lw_in (Cond.code yX11_partiesIn cX11_partiesIn 4 (some .int)) := ⟨lw_t (tm_8 (List.mem_of_getElem? (i := 155) rfl)), good_of_word (by decide +kernel)⟩
set_option maxRecDepth 100000 in
theorem dw_1328 : lw_in (Cond.code yX11_sumNow cX11_sumNow 5 (some .int)) := ⟨lw_t (tm_8 (List.mem_of_getElem? (i := 159) rfl)), good_of_word (by decide +kernel)⟩
theorem dw_1329 : lw_in (Cond.selects RX11 yX11_count yX11_count) := ⟨lw_t (tm_8 (List.mem_of_getElem? (i := 150) rfl)), good_of_word (by decide +kernel)⟩
theorem dw_1330 : lw_in (Cond.instanceMethod yX11_count) := ⟨lw_t (tm_8 (List.mem_of_getElem? (i := 149) rfl)), good_of_word (by decide +kernel)⟩
theorem dw_1331 : lw_in (Cond.methodLink R_law 209 yX11_count) := ⟨lw_t (tm_8 (List.mem_of_getElem? (i := 148) rfl)), good_of_word (by decide +kernel)⟩
set_option maxRecDepth 100000 in
theorem dw_1332 : lw_in (Cond.code yX10_init cX10_init 1 none) := ⟨lw_t (tm_1 (List.mem_of_getElem? (i := 26) rfl)), good_of_word (by decide +kernel)⟩
theorem dw_1333 : lw_in (Cond.instanceMethod yX8_init) := ⟨lw_t (tm_2 (List.mem_of_getElem? (i := 163) rfl)), good_of_word (by decide +kernel)⟩
theorem dw_1334 : lw_in (Cond.instanceMethod yX2_init) := ⟨lw_t (tm_2 (List.mem_of_getElem? (i := 138) rfl)), good_of_word (by decide +kernel)⟩
theorem dw_1335 : lw_in (Cond.instanceMethod yX0_init) := ⟨lw_t (tm_2 (List.mem_of_getElem? (i := 125) rfl)), good_of_word (by decide +kernel)⟩
theorem dw_1336 : lw_in (Cond.instanceMethod yX3_init) := ⟨lw_t (tm_2 (List.mem_of_getElem? (i := 98) rfl)), good_of_word (by decide +kernel)⟩
theorem dw_1337 : lw_in (Cond.instanceMethod yX4_init) := ⟨lw_t (tm_1 (List.mem_of_getElem? (i := 171) rfl)), good_of_word (by decide +kernel)⟩
theorem dw_1338 : lw_in (Cond.instanceMethod yX7_init) := ⟨lw_t (tm_1 (List.mem_of_getElem? (i := 33) rfl)), good_of_word (by decide +kernel)⟩
theorem dw_1339 : lw_in (Cond.instantiable RX8 8) := ⟨lw_t (tm_2 (List.mem_of_getElem? (i := 161) rfl)), good_of_word (by decide +kernel)⟩
theorem dw_1340 : lw_in (Cond.classLink RX10 67 RX8) := ⟨lw_t (tm_2 (List.mem_of_getElem? (i := 160) rfl)), good_of_word (by decide +kernel)⟩
theorem dw_1341 : lw_in (Cond.instantiable RX2 6) := ⟨lw_t (tm_2 (List.mem_of_getElem? (i := 136) rfl)), good_of_word (by decide +kernel)⟩
theorem dw_1342 : lw_in (Cond.classLink RX10 58 RX2) := ⟨lw_t (tm_2 (List.mem_of_getElem? (i := 135) rfl)), good_of_word (by decide +kernel)⟩
theorem dw_1343 : lw_in (Cond.instantiable RX0 2) := ⟨lw_t (tm_2 (List.mem_of_getElem? (i := 123) rfl)), good_of_word (by decide +kernel)⟩
theorem dw_1344 : lw_in (Cond.classLink RX10 49 RX0) := ⟨lw_t (tm_2 (List.mem_of_getElem? (i := 122) rfl)), good_of_word (by decide +kernel)⟩
theorem dw_1345 : lw_in (Cond.instantiable RX3 5) := ⟨lw_t (tm_2 (List.mem_of_getElem? (i := 96) rfl)), good_of_word (by decide +kernel)⟩
theorem dw_1346 : lw_in (Cond.classLink RX10 42 RX3) := ⟨lw_t (tm_2 (List.mem_of_getElem? (i := 95) rfl)), good_of_word (by decide +kernel)⟩
theorem dw_1347 : lw_in (Cond.classLink RX10 32 RX6) := ⟨lw_t (tm_2 (List.mem_of_getElem? (i := 50) rfl)), good_of_word (by decide +kernel)⟩
theorem dw_1348 : lw_in (Cond.instantiable RX4 8) := ⟨lw_t (tm_1 (List.mem_of_getElem? (i := 169) rfl)), good_of_word (by decide +kernel)⟩
theorem dw_1349 : lw_in (Cond.classLink RX10 23 RX4) := ⟨lw_t (tm_1 (List.mem_of_getElem? (i := 168) rfl)), good_of_word (by decide +kernel)⟩
theorem dw_1350 : lw_in (Cond.classLink RX10 16 RX5) := ⟨lw_t (tm_1 (List.mem_of_getElem? (i := 46) rfl)), good_of_word (by decide +kernel)⟩
theorem dw_1351 : lw_in (Cond.instantiable RX7 2) := ⟨lw_t (tm_1 (List.mem_of_getElem? (i := 31) rfl)), good_of_word (by decide +kernel)⟩
theorem dw_1352 : lw_in (Cond.classLink RX10 7 RX7) := ⟨lw_t (tm_1 (List.mem_of_getElem? (i := 30) rfl)), good_of_word (by decide +kernel)⟩
theorem dw_1353 : lw_in (Cond.methodLink RX10 1 objectInit) := ⟨lw_t (tm_1 (List.mem_of_getElem? (i := 27) rfl)), good_of_word (by decide +kernel)⟩
set_option maxRecDepth 100000 in
theorem dw_1354 : lw_in (Cond.code yX7_init cX7_init 1 none) := ⟨lw_t (tm_1 (List.mem_of_getElem? (i := 34) rfl)), good_of_word (by decide +kernel)⟩
theorem dw_1355 : lw_in (Cond.arrayClass .byte) := ⟨lw_t (tm_1 (List.mem_of_getElem? (i := 45) rfl)), good_of_word (by decide +kernel)⟩
set_option maxRecDepth 100000 in
theorem dw_1356 : lw_in (Cond.code objectInit ⟨#[0xb1]⟩ 1 none) := ⟨lw_t (tm_1 (List.mem_of_getElem? (i := 29) rfl)), good_of_word (by decide +kernel)⟩
theorem dw_1357 : lw_in (Cond.instanceMethod objectInit) := ⟨lw_t (tm_1 (List.mem_of_getElem? (i := 28) rfl)), good_of_word (by decide +kernel)⟩
theorem dw_1358 : lw_in (Cond.methodLink RX7 3 objectInit) := ⟨lw_t (tm_1 (List.mem_of_getElem? (i := 35) rfl)), good_of_word (by decide +kernel)⟩
set_option maxRecDepth 100000 in
theorem dw_1359 : lw_in (Cond.code yX5_init cX5_init 1 none) := ⟨lw_t (tm_1 (List.mem_of_getElem? (i := 50) rfl)), good_of_word (by decide +kernel)⟩
theorem dw_1360 : lw_in (Cond.methodLink RX5 34 yX5_clear) := ⟨lw_t (tm_1 (List.mem_of_getElem? (i := 88) rfl)), good_of_word (by decide +kernel)⟩
theorem dw_1361 : lw_in (Cond.instanceMethod yX1_init) := ⟨lw_t (tm_1 (List.mem_of_getElem? (i := 55) rfl)), good_of_word (by decide +kernel)⟩
theorem dw_1362 : lw_in (Cond.instantiable RX1 9) := ⟨lw_t (tm_1 (List.mem_of_getElem? (i := 53) rfl)), good_of_word (by decide +kernel)⟩
theorem dw_1363 : lw_in (Cond.classLink RX5 27 RX1) := ⟨lw_t (tm_1 (List.mem_of_getElem? (i := 52) rfl)), good_of_word (by decide +kernel)⟩
theorem dw_1364 : lw_in (Cond.methodLink RX5 3 objectInit) := ⟨lw_t (tm_1 (List.mem_of_getElem? (i := 51) rfl)), good_of_word (by decide +kernel)⟩
set_option maxRecDepth 100000 in
theorem dw_1365 : lw_in (Cond.code yX1_init cX1_init 1 none) := ⟨lw_t (tm_1 (List.mem_of_getElem? (i := 56) rfl)), good_of_word (by decide +kernel)⟩
theorem dw_1366 : lw_in (Cond.arrayClass .int) := ⟨lw_t (tm_1 (List.mem_of_getElem? (i := 87) rfl)), good_of_word (by decide +kernel)⟩
theorem dw_1367 : lw_in (Cond.methodLink RX1 9 objectInit) := ⟨lw_t (tm_1 (List.mem_of_getElem? (i := 57) rfl)), good_of_word (by decide +kernel)⟩
set_option maxRecDepth 100000 in
theorem dw_1368 : lw_in (Cond.code yX4_init cX4_init 2 none) := ⟨lw_t (tm_1 (List.mem_of_getElem? (i := 172) rfl)), good_of_word (by decide +kernel)⟩
theorem dw_1369 : lw_in (Cond.instanceMethod yX9_init) := ⟨lw_t (tm_1 (List.mem_of_getElem? (i := 179) rfl)), good_of_word (by decide +kernel)⟩
theorem dw_1370 : lw_in (Cond.instanceMethod yX5_init) := ⟨lw_t (tm_1 (List.mem_of_getElem? (i := 49) rfl)), good_of_word (by decide +kernel)⟩
theorem dw_1371 : lw_in (Cond.instantiable RX9 7) := ⟨lw_t (tm_1 (List.mem_of_getElem? (i := 177) rfl)), good_of_word (by decide +kernel)⟩
theorem dw_1372 : lw_in (Cond.classLink RX4 26 RX9) := ⟨lw_t (tm_1 (List.mem_of_getElem? (i := 176) rfl)), good_of_word (by decide +kernel)⟩
theorem dw_1373 : lw_in (Cond.instantiable RX5 10) := ⟨lw_t (tm_1 (List.mem_of_getElem? (i := 47) rfl)), good_of_word (by decide +kernel)⟩
theorem dw_1374 : lw_in (Cond.classLink RX4 9 RX5) := ⟨lw_t (tm_1 (List.mem_of_getElem? (i := 174) rfl)), good_of_word (by decide +kernel)⟩
theorem dw_1375 : lw_in (Cond.methodLink RX4 3 objectInit) := ⟨lw_t (tm_1 (List.mem_of_getElem? (i := 173) rfl)), good_of_word (by decide +kernel)⟩
set_option maxRecDepth 100000 in
theorem dw_1376 : lw_in (Cond.code yX9_init cX9_init 7 none) := ⟨lw_t (tm_1 (List.mem_of_getElem? (i := 180) rfl)), good_of_word (by decide +kernel)⟩
theorem dw_1377 : lw_in (Cond.selects RJ0 yJ0_charAt_5068e yJ0_charAt_5068e) := ⟨lw_t (tm_1 (List.mem_of_getElem? (i := 195) rfl)), good_of_word (by decide +kernel)⟩
theorem dw_1378 : lw_in (Cond.instanceMethod yJ0_charAt_5068e) := ⟨lw_t (tm_1 (List.mem_of_getElem? (i := 194) rfl)), good_of_word (by decide +kernel)⟩
theorem dw_1379 : lw_in (Cond.methodLink RX9 35 yJ0_charAt_5068e) := ⟨lw_t (tm_1 (List.mem_of_getElem? (i := 193) rfl)), good_of_word (by decide +kernel)⟩
theorem dw_1380 : lw_in (Cond.methodLink RX9 29 yJ0_length_8abf5) := ⟨lw_t (tm_1 (List.mem_of_getElem? (i := 183) rfl)), good_of_word (by decide +kernel)⟩
theorem dw_1381 : lw_in (Cond.arrayClass .long) := ⟨lw_t (tm_2 (List.mem_of_getElem? (i := 22) rfl)), good_of_word (by decide +kernel)⟩
theorem dw_1382 : lw_in (Cond.methodLink RX9 3 objectInit) := ⟨lw_t (tm_1 (List.mem_of_getElem? (i := 181) rfl)), good_of_word (by decide +kernel)⟩
set_option maxRecDepth 100000 in
theorem dw_1383 : lw_in (Cond.code yJ0_charAt_5068e cJ0_charAt_5068e 2 (some .char)) := ⟨lw_t (tm_1 (List.mem_of_getElem? (i := 196) rfl)), good_of_word (by decide +kernel)⟩
theorem dw_1384 : lw_in (Cond.static yJ2_charAt_3b067) := ⟨lw_t (tm_1 (List.mem_of_getElem? (i := 213) rfl)), good_of_word (by decide +kernel)⟩
theorem dw_1385 : lw_in (Cond.methodLink RJ0 498 yJ2_charAt_3b067) := ⟨lw_t (tm_1 (List.mem_of_getElem? (i := 212) rfl)), good_of_word (by decide +kernel)⟩
theorem dw_1386 : lw_in (Cond.static yJ1_charAt_3b067) := ⟨lw_t (tm_1 (List.mem_of_getElem? (i := 202) rfl)), good_of_word (by decide +kernel)⟩
theorem dw_1387 : lw_in (Cond.methodLink RJ0 495 yJ1_charAt_3b067) := ⟨lw_t (tm_1 (List.mem_of_getElem? (i := 201) rfl)), good_of_word (by decide +kernel)⟩
set_option maxRecDepth 100000 in
theorem dw_1388 : lw_in (Cond.code yJ1_charAt_3b067 cJ1_charAt_3b067 2 (some .char)) := ⟨lw_t (tm_1 (List.mem_of_getElem? (i := 203) rfl)), good_of_word (by decide +kernel)⟩
theorem dw_1389 : lw_in (Cond.static yJ0_checkIndex_df160) := ⟨lw_t (tm_1 (List.mem_of_getElem? (i := 205) rfl)), good_of_word (by decide +kernel)⟩
theorem dw_1390 : lw_in (Cond.methodLink RJ1 9 yJ0_checkIndex_df160) := ⟨lw_t (tm_1 (List.mem_of_getElem? (i := 204) rfl)), good_of_word (by decide +kernel)⟩
set_option maxRecDepth 100000 in
theorem dw_1391 : lw_in (Cond.code yJ0_checkIndex_df160 cJ0_checkIndex_df160 2 none) := ⟨lw_t (tm_1 (List.mem_of_getElem? (i := 206) rfl)), good_of_word (by decide +kernel)⟩
theorem dw_1392 : lw_in (Cond.static yJ3_checkIndex_8e157) := ⟨lw_t (tm_1 (List.mem_of_getElem? (i := 210) rfl)), good_of_word (by decide +kernel)⟩
theorem dw_1393 : lw_in (Cond.methodLink RJ0 1059 yJ3_checkIndex_8e157) := ⟨lw_t (tm_1 (List.mem_of_getElem? (i := 209) rfl)), good_of_word (by decide +kernel)⟩
set_option maxRecDepth 100000 in
theorem dw_1394 : lw_in (Cond.code yJ3_checkIndex_8e157 cJ3_checkIndex_8e157 3 (some .int)) := ⟨lw_t (tm_1 (List.mem_of_getElem? (i := 211) rfl)), good_of_word (by decide +kernel)⟩
set_option maxRecDepth 100000 in
theorem dw_1395 : lw_in (Cond.code yJ2_charAt_3b067 cJ2_charAt_3b067 2 (some .char)) := ⟨lw_t (tm_1 (List.mem_of_getElem? (i := 214) rfl)), good_of_word (by decide +kernel)⟩
theorem dw_1396 : lw_in (Cond.static yJ2_checkIndex_2214a) := ⟨lw_t (tm_1 (List.mem_of_getElem? (i := 216) rfl)), good_of_word (by decide +kernel)⟩
theorem dw_1397 : lw_in (Cond.methodLink RJ2 67 yJ2_checkIndex_2214a) := ⟨lw_t (tm_1 (List.mem_of_getElem? (i := 215) rfl)), good_of_word (by decide +kernel)⟩
set_option maxRecDepth 100000 in
theorem dw_1398 : lw_in (Cond.code yJ2_checkIndex_2214a cJ2_checkIndex_2214a 2 none) := ⟨lw_t (tm_1 (List.mem_of_getElem? (i := 217) rfl)), good_of_word (by decide +kernel)⟩
theorem dw_1399 : lw_in (Cond.methodLink RJ2 414 yJ0_checkIndex_df160) := ⟨lw_t (tm_1 (List.mem_of_getElem? (i := 221) rfl)), good_of_word (by decide +kernel)⟩
set_option maxRecDepth 100000 in
theorem dw_1400 : lw_in (Cond.code yX6_init cX6_init 1 none) := ⟨lw_t (tm_2 (List.mem_of_getElem? (i := 54) rfl)), good_of_word (by decide +kernel)⟩
theorem dw_1401 : lw_in (Cond.methodLink RX6 3 objectInit) := ⟨lw_t (tm_2 (List.mem_of_getElem? (i := 55) rfl)), good_of_word (by decide +kernel)⟩
set_option maxRecDepth 100000 in
theorem dw_1402 : lw_in (Cond.code yX3_init cX3_init 2 none) := ⟨lw_t (tm_2 (List.mem_of_getElem? (i := 99) rfl)), good_of_word (by decide +kernel)⟩
theorem dw_1403 : lw_in (Cond.instanceMethod yX6_init) := ⟨lw_t (tm_2 (List.mem_of_getElem? (i := 53) rfl)), good_of_word (by decide +kernel)⟩
theorem dw_1404 : lw_in (Cond.instantiable RX6 7) := ⟨lw_t (tm_2 (List.mem_of_getElem? (i := 51) rfl)), good_of_word (by decide +kernel)⟩
theorem dw_1405 : lw_in (Cond.arrayClass .boolean) := ⟨lw_t (tm_2 (List.mem_of_getElem? (i := 121) rfl)), good_of_word (by decide +kernel)⟩
theorem dw_1406 : lw_in (Cond.classLink RX3 9 RX6) := ⟨lw_t (tm_2 (List.mem_of_getElem? (i := 101) rfl)), good_of_word (by decide +kernel)⟩
theorem dw_1407 : lw_in (Cond.methodLink RX3 3 objectInit) := ⟨lw_t (tm_2 (List.mem_of_getElem? (i := 100) rfl)), good_of_word (by decide +kernel)⟩
set_option maxRecDepth 100000 in
theorem dw_1408 : lw_in (Cond.code yX0_init cX0_init 2 none) := ⟨lw_t (tm_2 (List.mem_of_getElem? (i := 126) rfl)), good_of_word (by decide +kernel)⟩
theorem dw_1409 : lw_in (Cond.methodLink RX0 3 objectInit) := ⟨lw_t (tm_2 (List.mem_of_getElem? (i := 127) rfl)), good_of_word (by decide +kernel)⟩
set_option maxRecDepth 100000 in
theorem dw_1410 : lw_in (Cond.code yX2_init cX2_init 3 none) := ⟨lw_t (tm_2 (List.mem_of_getElem? (i := 139) rfl)), good_of_word (by decide +kernel)⟩
theorem dw_1411 : lw_in (Cond.methodLink RX2 3 objectInit) := ⟨lw_t (tm_2 (List.mem_of_getElem? (i := 140) rfl)), good_of_word (by decide +kernel)⟩
set_option maxRecDepth 100000 in
theorem dw_1412 : lw_in (Cond.code yX8_init cX8_init 3 none) := ⟨lw_t (tm_2 (List.mem_of_getElem? (i := 164) rfl)), good_of_word (by decide +kernel)⟩
theorem dw_1413 : lw_in (Cond.methodLink RX8 3 objectInit) := ⟨lw_t (tm_2 (List.mem_of_getElem? (i := 165) rfl)), good_of_word (by decide +kernel)⟩
set_option maxRecDepth 100000 in
theorem dw_1414 : lw_in (Cond.code yX11_init cX11_init 1 none) := ⟨lw_t (tm_5 (List.mem_of_getElem? (i := 215) rfl)), good_of_word (by decide +kernel)⟩
theorem dw_1415 : lw_in (Cond.static yX11_word) := ⟨lw_t (tm_5 (List.mem_of_getElem? (i := 222) rfl)), good_of_word (by decide +kernel)⟩
theorem dw_1416 : lw_in (Cond.methodLink RX11 138 yX11_word) := ⟨lw_t (tm_5 (List.mem_of_getElem? (i := 221) rfl)), good_of_word (by decide +kernel)⟩
theorem dw_1417 : lw_in (Cond.methodLink RX11 7 objectInit) := ⟨lw_t (tm_5 (List.mem_of_getElem? (i := 216) rfl)), good_of_word (by decide +kernel)⟩
set_option maxRecDepth 100000 in
theorem dw_1418 : lw_in (Cond.code yX11_word cX11_word 7 (some .long)) := ⟨lw_t (tm_5 (List.mem_of_getElem? (i := 223) rfl)), good_of_word (by decide +kernel)⟩
