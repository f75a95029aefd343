set_option maxRecDepth 100000 in
theorem dw_1250 : lw_in (Cond.code yX11_year cX11_year 5 (some .int)) := ⟨List.mem_of_getElem? (i := 1947) rfl, good_of_word (by decide +kernel)⟩
theorem dw_1251 : lw_in (Cond.selects RX11 yX11_year yX11_year) := ⟨List.mem_of_getElem? (i := 1946) (by decide +kernel), good_of_word (by decide +kernel)⟩
theorem dw_1252 : lw_in (Cond.instanceMethod yX11_year) := ⟨List.mem_of_getElem? (i := 1945) (by decide +kernel), good_of_word (by decide +kernel)⟩
theorem dw_1253 : lw_in (Cond.methodLink R_law 172 yX11_year) := ⟨List.mem_of_getElem? (i := 1944) (by decide +kernel), good_of_word (by decide +kernel)⟩
set_option maxRecDepth 100000 in
theorem dw_1254 : lw_in (Cond.code yX10_drawn cX10_drawn 5 (some .int)) := ⟨List.mem_of_getElem? (i := 1225) rfl, good_of_word (by decide +kernel)⟩
theorem dw_1255 : lw_in (Cond.selects RX10 yX10_drawn yX10_drawn) := ⟨List.mem_of_getElem? (i := 1224) (by decide +kernel), good_of_word (by decide +kernel)⟩
theorem dw_1256 : lw_in (Cond.instanceMethod yX10_drawn) := ⟨List.mem_of_getElem? (i := 1223) (by decide +kernel), good_of_word (by decide +kernel)⟩
theorem dw_1257 : lw_in (Cond.methodLink R_law 173 yX10_drawn) := ⟨List.mem_of_getElem? (i := 1222) (by decide +kernel), good_of_word (by decide +kernel)⟩
set_option maxRecDepth 100000 in
theorem dw_1258 : lw_in (Cond.code yX11_drawn cX11_drawn 5 (some .int)) := ⟨List.mem_of_getElem? (i := 1951) rfl, good_of_word (by decide +kernel)⟩
theorem dw_1259 : lw_in (Cond.selects RX11 yX11_drawn yX11_drawn) := ⟨List.mem_of_getElem? (i := 1950) (by decide +kernel), good_of_word (by decide +kernel)⟩
theorem dw_1260 : lw_in (Cond.instanceMethod yX11_drawn) := ⟨List.mem_of_getElem? (i := 1949) (by decide +kernel), good_of_word (by decide +kernel)⟩
theorem dw_1261 : lw_in (Cond.methodLink R_law 176 yX11_drawn) := ⟨List.mem_of_getElem? (i := 1948) (by decide +kernel), good_of_word (by decide +kernel)⟩
set_option maxRecDepth 100000 in
theorem dw_1262 : lw_in (Cond.code yX10_tell cX10_tell 4 (some .int)) := ⟨List.mem_of_getElem? (i := 1230) rfl, good_of_word (by decide +kernel)⟩
theorem dw_1263 : lw_in (Cond.fieldLink RX8 35 "GuessFerry$Tellers" "told" "I") := ⟨List.mem_of_getElem? (i := 581) (by decide +kernel), good_of_word (by decide +kernel)⟩
set_option maxRecDepth 100000 in
theorem dw_1264 : lw_in (Cond.code yX8_add cX8_add 3 (some .int)) := ⟨List.mem_of_getElem? (i := 1234) rfl, good_of_word (by decide +kernel)⟩
theorem dw_1265 : lw_in (Cond.selects RX8 yX8_add yX8_add) := ⟨List.mem_of_getElem? (i := 83) (by decide +kernel), good_of_word (by decide +kernel)⟩
theorem dw_1266 : lw_in (Cond.instanceMethod yX8_add) := ⟨List.mem_of_getElem? (i := 1233) (by decide +kernel), good_of_word (by decide +kernel)⟩
theorem dw_1267 : lw_in (Cond.selects RX10 yX10_tell yX10_tell) := ⟨List.mem_of_getElem? (i := 1229) (by decide +kernel), good_of_word (by decide +kernel)⟩
theorem dw_1268 : lw_in (Cond.instanceMethod yX10_tell) := ⟨List.mem_of_getElem? (i := 1228) (by decide +kernel), good_of_word (by decide +kernel)⟩
theorem dw_1269 : lw_in (Cond.methodLink R_law 177 yX10_tell) := ⟨List.mem_of_getElem? (i := 1227) (by decide +kernel), good_of_word (by decide +kernel)⟩
set_option maxRecDepth 100000 in
theorem dw_1270 : lw_in (Cond.code yX11_tell cX11_tell 4 (some .int)) := ⟨List.mem_of_getElem? (i := 1955) rfl, good_of_word (by decide +kernel)⟩
theorem dw_1271 : lw_in (Cond.selects RX11 yX11_tell yX11_tell) := ⟨List.mem_of_getElem? (i := 1954) (by decide +kernel), good_of_word (by decide +kernel)⟩
theorem dw_1272 : lw_in (Cond.instanceMethod yX11_tell) := ⟨List.mem_of_getElem? (i := 1953) (by decide +kernel), good_of_word (by decide +kernel)⟩
theorem dw_1273 : lw_in (Cond.methodLink R_law 181 yX11_tell) := ⟨List.mem_of_getElem? (i := 1952) (by decide +kernel), good_of_word (by decide +kernel)⟩
set_option maxRecDepth 100000 in
theorem dw_1274 : lw_in (Cond.code yX10_forget cX10_forget 2 (some .int)) := ⟨List.mem_of_getElem? (i := 1238) rfl, good_of_word (by decide +kernel)⟩
theorem dw_1275 : lw_in (Cond.selects RX10 yX10_forget yX10_forget) := ⟨List.mem_of_getElem? (i := 1237) (by decide +kernel), good_of_word (by decide +kernel)⟩
theorem dw_1276 : lw_in (Cond.instanceMethod yX10_forget) := ⟨List.mem_of_getElem? (i := 1236) (by decide +kernel), good_of_word (by decide +kernel)⟩
theorem dw_1277 : lw_in (Cond.methodLink R_law 182 yX10_forget) := ⟨List.mem_of_getElem? (i := 1235) (by decide +kernel), good_of_word (by decide +kernel)⟩
set_option maxRecDepth 100000 in
theorem dw_1278 : lw_in (Cond.code yX11_forget cX11_forget 2 (some .int)) := ⟨List.mem_of_getElem? (i := 1959) rfl, good_of_word (by decide +kernel)⟩
theorem dw_1279 : lw_in (Cond.selects RX11 yX11_forget yX11_forget) := ⟨List.mem_of_getElem? (i := 1958) (by decide +kernel), good_of_word (by decide +kernel)⟩
theorem dw_1280 : lw_in (Cond.instanceMethod yX11_forget) := ⟨List.mem_of_getElem? (i := 1957) (by decide +kernel), good_of_word (by decide +kernel)⟩
theorem dw_1281 : lw_in (Cond.methodLink R_law 185 yX11_forget) := ⟨List.mem_of_getElem? (i := 1956) (by decide +kernel), good_of_word (by decide +kernel)⟩
set_option maxRecDepth 100000 in
theorem dw_1282 : lw_in (Cond.code yX10_fit cX10_fit 4 (some .int)) := ⟨List.mem_of_getElem? (i := 1242) rfl, good_of_word (by decide +kernel)⟩
set_option maxRecDepth 100000 in
theorem dw_1283 : lw_in (Cond.code yX8_believe cX8_believe 7 none) := ⟨List.mem_of_getElem? (i := 1250) rfl, good_of_word (by decide +kernel)⟩
theorem dw_1284 : lw_in (Cond.selects RX8 yX8_believe yX8_believe) := ⟨List.mem_of_getElem? (i := 85) (by decide +kernel), good_of_word (by decide +kernel)⟩
theorem dw_1285 : lw_in (Cond.instanceMethod yX8_believe) := ⟨List.mem_of_getElem? (i := 1249) (by decide +kernel), good_of_word (by decide +kernel)⟩
set_option maxRecDepth 100000 in
theorem dw_1286 : lw_in (Cond.code yX8_areSuch cX8_areSuch 3 (some .boolean)) := ⟨List.mem_of_getElem? (i := 1246) rfl, good_of_word (by decide +kernel)⟩
theorem dw_1287 : lw_in (Cond.selects RX8 yX8_areSuch yX8_areSuch) := ⟨List.mem_of_getElem? (i := 84) (by decide +kernel), good_of_word (by decide +kernel)⟩
theorem dw_1288 : lw_in (Cond.instanceMethod yX8_areSuch) := ⟨List.mem_of_getElem? (i := 1245) (by decide +kernel), good_of_word (by decide +kernel)⟩
theorem dw_1289 : lw_in (Cond.selects RX8 yX8_withWave yX8_withWave) := ⟨List.mem_of_getElem? (i := 89) (by decide +kernel), good_of_word (by decide +kernel)⟩
theorem dw_1290 : lw_in (Cond.instanceMethod yX8_withWave) := ⟨List.mem_of_getElem? (i := 1269) (by decide +kernel), good_of_word (by decide +kernel)⟩
theorem dw_1291 : lw_in (Cond.methodLink RX8 68 yX8_withWave) := ⟨List.mem_of_getElem? (i := 1267) (by decide +kernel), good_of_word (by decide +kernel)⟩
theorem dw_1292 : lw_in (Cond.methodLink RX8 62 yJ7_fill_53178) := ⟨List.mem_of_getElem? (i := 1266) (by decide +kernel), good_of_word (by decide +kernel)⟩
set_option maxRecDepth 100000 in
theorem dw_1293 : lw_in (Cond.code yX8_sortByLies cX8_sortByLies 5 none) := ⟨List.mem_of_getElem? (i := 1265) rfl, good_of_word (by decide +kernel)⟩
theorem dw_1294 : lw_in (Cond.selects RX8 yX8_sortByLies yX8_sortByLies) := ⟨List.mem_of_getElem? (i := 88) (by decide +kernel), good_of_word (by decide +kernel)⟩
theorem dw_1295 : lw_in (Cond.instanceMethod yX8_sortByLies) := ⟨List.mem_of_getElem? (i := 1264) (by decide +kernel), good_of_word (by decide +kernel)⟩
theorem dw_1296 : lw_in (Cond.methodLink RX8 72 yX8_sortByLies) := ⟨List.mem_of_getElem? (i := 1262) (by decide +kernel), good_of_word (by decide +kernel)⟩
set_option maxRecDepth 100000 in
theorem dw_1297 : lw_in (Cond.code yX8_fitting cX8_fitting 3 (some .int)) := ⟨List.mem_of_getElem? (i := 1261) rfl, good_of_word (by decide +kernel)⟩
theorem dw_1298 : lw_in (Cond.selects RX8 yX8_fitting yX8_fitting) := ⟨List.mem_of_getElem? (i := 87) (by decide +kernel), good_of_word (by decide +kernel)⟩
theorem dw_1299 : lw_in (Cond.instanceMethod yX8_fitting) := ⟨List.mem_of_getElem? (i := 1260) (by decide +kernel), good_of_word (by decide +kernel)⟩
set_option maxRecDepth 100000 in
theorem dw_1300 : lw_in (Cond.code yX8_beliedBy cX8_beliedBy 6 (some .int)) := ⟨List.mem_of_getElem? (i := 1257) rfl, good_of_word (by decide +kernel)⟩
theorem dw_1301 : lw_in (Cond.selects RX8 yX8_beliedBy yX8_beliedBy) := ⟨List.mem_of_getElem? (i := 86) (by decide +kernel), good_of_word (by decide +kernel)⟩
theorem dw_1302 : lw_in (Cond.instanceMethod yX8_beliedBy) := ⟨List.mem_of_getElem? (i := 1256) (by decide +kernel), good_of_word (by decide +kernel)⟩
theorem dw_1303 : lw_in (Cond.methodLink RX8 58 yX8_beliedBy) := ⟨List.mem_of_getElem? (i := 1254) (by decide +kernel), good_of_word (by decide +kernel)⟩
set_option maxRecDepth 100000 in
theorem dw_1304 : lw_in (Cond.code yX8_upTo cX8_upTo 4 (some .int)) := ⟨List.mem_of_getElem? (i := 1274) rfl, good_of_word (by decide +kernel)⟩
theorem dw_1305 : lw_in (Cond.selects RX8 yX8_upTo yX8_upTo) := ⟨List.mem_of_getElem? (i := 90) (by decide +kernel), good_of_word (by decide +kernel)⟩
theorem dw_1306 : lw_in (Cond.instanceMethod yX8_upTo) := ⟨List.mem_of_getElem? (i := 1273) (by decide +kernel), good_of_word (by decide +kernel)⟩
theorem dw_1307 : lw_in (Cond.methodLink RX8 76 yX8_upTo) := ⟨List.mem_of_getElem? (i := 1271) (by decide +kernel), good_of_word (by decide +kernel)⟩
set_option maxRecDepth 100000 in
theorem dw_1308 : lw_in (Cond.code yX8_withWave cX8_withWave 7 (some .int)) := ⟨List.mem_of_getElem? (i := 1270) rfl, good_of_word (by decide +kernel)⟩
theorem dw_1309 : lw_in (Cond.selects RX10 yX10_fit yX10_fit) := ⟨List.mem_of_getElem? (i := 1241) (by decide +kernel), good_of_word (by decide +kernel)⟩
theorem dw_1310 : lw_in (Cond.instanceMethod yX10_fit) := ⟨List.mem_of_getElem? (i := 1240) (by decide +kernel), good_of_word (by decide +kernel)⟩
theorem dw_1311 : lw_in (Cond.methodLink R_law 186 yX10_fit) := ⟨List.mem_of_getElem? (i := 1239) (by decide +kernel), good_of_word (by decide +kernel)⟩
set_option maxRecDepth 100000 in
theorem dw_1312 : lw_in (Cond.code yX11_fit cX11_fit 6 (some .int)) := ⟨List.mem_of_getElem? (i := 1963) rfl, good_of_word (by decide +kernel)⟩
set_option maxRecDepth 100000 in
theorem dw_1313 : lw_in (Cond.code yX11_isAsked cX11_isAsked 3 (some .boolean)) := ⟨List.mem_of_getElem? (i := 1967) rfl, good_of_word (by decide +kernel)⟩
theorem dw_1314 : lw_in (Cond.selects RX11 yX11_isAsked yX11_isAsked) := ⟨List.mem_of_getElem? (i := 162) (by decide +kernel), good_of_word (by decide +kernel)⟩
theorem dw_1315 : lw_in (Cond.instanceMethod yX11_isAsked) := ⟨List.mem_of_getElem? (i := 1966) (by decide +kernel), good_of_word (by decide +kernel)⟩
theorem dw_1316 : lw_in (Cond.methodLink RX11 422 yX11_isAsked) := ⟨List.mem_of_getElem? (i := 1964) (by decide +kernel), good_of_word (by decide +kernel)⟩
set_option maxRecDepth 100000 in
theorem dw_1317 : lw_in (Cond.code yX11_isSo cX11_isSo 3 (some .boolean)) := ⟨List.mem_of_getElem? (i := 1975) rfl, good_of_word (by decide +kernel)⟩
theorem dw_1318 : lw_in (Cond.selects RX11 yX11_isSo yX11_isSo) := ⟨List.mem_of_getElem? (i := 164) (by decide +kernel), good_of_word (by decide +kernel)⟩
theorem dw_1319 : lw_in (Cond.instanceMethod yX11_isSo) := ⟨List.mem_of_getElem? (i := 1974) (by decide +kernel), good_of_word (by decide +kernel)⟩
theorem dw_1320 : lw_in (Cond.methodLink RX11 419 yX11_isSo) := ⟨List.mem_of_getElem? (i := 1972) (by decide +kernel), good_of_word (by decide +kernel)⟩
set_option maxRecDepth 100000 in
theorem dw_1321 : lw_in (Cond.code yX11_doesFit cX11_doesFit 6 (some .boolean)) := ⟨List.mem_of_getElem? (i := 1971) rfl, good_of_word (by decide +kernel)⟩
theorem dw_1322 : lw_in (Cond.selects RX11 yX11_doesFit yX11_doesFit) := ⟨List.mem_of_getElem? (i := 163) (by decide +kernel), good_of_word (by decide +kernel)⟩
theorem dw_1323 : lw_in (Cond.instanceMethod yX11_doesFit) := ⟨List.mem_of_getElem? (i := 1970) (by decide +kernel), good_of_word (by decide +kernel)⟩
theorem dw_1324 : lw_in (Cond.methodLink RX11 425 yX11_doesFit) := ⟨List.mem_of_getElem? (i := 1968) (by decide +kernel), good_of_word (by decide +kernel)⟩
theorem dw_1325 : lw_in (Cond.selects RX11 yX11_fit yX11_fit) := ⟨List.mem_of_getElem? (i := 1962) (by decide +kernel), good_of_word (by decide +kernel)⟩
theorem dw_1326 : lw_in (Cond.instanceMethod yX11_fit) := ⟨List.mem_of_getElem? (i := 1961) (by decide +kernel), good_of_word (by decide +kernel)⟩
theorem dw_1327 : lw_in (Cond.methodLink R_law 189 yX11_fit) := ⟨List.mem_of_getElem? (i := 1960) (by decide +kernel), good_of_word (by decide +kernel)⟩
set_option maxRecDepth 100000 in
theorem dw_1328 : lw_in (Cond.code yX10_lie cX10_lie 3 (some .int)) := ⟨List.mem_of_getElem? (i := 1278) rfl, good_of_word (by decide +kernel)⟩
set_option maxRecDepth 100000 in
theorem dw_1329 : lw_in (Cond.code yX8_liars cX8_liars 7 (some .int)) := ⟨List.mem_of_getElem? (i := 1282) rfl, good_of_word (by decide +kernel)⟩
theorem dw_1330 : lw_in (Cond.selects RX8 yX8_liars yX8_liars) := ⟨List.mem_of_getElem? (i := 91) (by decide +kernel), good_of_word (by decide +kernel)⟩
theorem dw_1331 : lw_in (Cond.instanceMethod yX8_liars) := ⟨List.mem_of_getElem? (i := 1281) (by decide +kernel), good_of_word (by decide +kernel)⟩
set_option maxRecDepth 100000 in
theorem dw_1332 : lw_in (Cond.code yX8_fittingWith cX8_fittingWith 5 (some .int)) := ⟨List.mem_of_getElem? (i := 1286) rfl, good_of_word (by decide +kernel)⟩
theorem dw_1333 : lw_in (Cond.selects RX8 yX8_fittingWith yX8_fittingWith) := ⟨List.mem_of_getElem? (i := 92) (by decide +kernel), good_of_word (by decide +kernel)⟩
theorem dw_1334 : lw_in (Cond.instanceMethod yX8_fittingWith) := ⟨List.mem_of_getElem? (i := 1285) (by decide +kernel), good_of_word (by decide +kernel)⟩
theorem dw_1335 : lw_in (Cond.methodLink RX8 80 yX8_fittingWith) := ⟨List.mem_of_getElem? (i := 1283) (by decide +kernel), good_of_word (by decide +kernel)⟩
theorem dw_1336 : lw_in (Cond.selects RX10 yX10_lie yX10_lie) := ⟨List.mem_of_getElem? (i := 1277) (by decide +kernel), good_of_word (by decide +kernel)⟩
theorem dw_1337 : lw_in (Cond.instanceMethod yX10_lie) := ⟨List.mem_of_getElem? (i := 1276) (by decide +kernel), good_of_word (by decide +kernel)⟩
theorem dw_1338 : lw_in (Cond.methodLink R_law 190 yX10_lie) := ⟨List.mem_of_getElem? (i := 1275) (by decide +kernel), good_of_word (by decide +kernel)⟩
set_option maxRecDepth 100000 in
theorem dw_1339 : lw_in (Cond.code yX11_lie cX11_lie 6 (some .int)) := ⟨List.mem_of_getElem? (i := 1979) rfl, good_of_word (by decide +kernel)⟩
theorem dw_1340 : lw_in (Cond.selects RX11 yX11_lie yX11_lie) := ⟨List.mem_of_getElem? (i := 1978) (by decide +kernel), good_of_word (by decide +kernel)⟩
theorem dw_1341 : lw_in (Cond.instanceMethod yX11_lie) := ⟨List.mem_of_getElem? (i := 1977) (by decide +kernel), good_of_word (by decide +kernel)⟩
theorem dw_1342 : lw_in (Cond.methodLink R_law 193 yX11_lie) := ⟨List.mem_of_getElem? (i := 1976) (by decide +kernel), good_of_word (by decide +kernel)⟩
set_option maxRecDepth 100000 in
theorem dw_1343 : lw_in (Cond.code yX10_ask cX10_ask 3 (some .int)) := ⟨List.mem_of_getElem? (i := 1290) rfl, good_of_word (by decide +kernel)⟩
theorem dw_1344 : lw_in (Cond.methodLink RX8 83 Lib.Math.max.name) := ⟨List.mem_of_getElem? (i := 1295) (by decide +kernel), good_of_word (by decide +kernel)⟩
set_option maxRecDepth 100000 in
theorem dw_1345 : lw_in (Cond.code yX8_waveToAsk cX8_waveToAsk 7 (some .int)) := ⟨List.mem_of_getElem? (i := 1294) rfl, good_of_word (by decide +kernel)⟩
theorem dw_1346 : lw_in (Cond.selects RX8 yX8_waveToAsk yX8_waveToAsk) := ⟨List.mem_of_getElem? (i := 93) (by decide +kernel), good_of_word (by decide +kernel)⟩
theorem dw_1347 : lw_in (Cond.instanceMethod yX8_waveToAsk) := ⟨List.mem_of_getElem? (i := 1293) (by decide +kernel), good_of_word (by decide +kernel)⟩
theorem dw_1348 : lw_in (Cond.selects RX10 yX10_ask yX10_ask) := ⟨List.mem_of_getElem? (i := 1289) (by decide +kernel), good_of_word (by decide +kernel)⟩
theorem dw_1349 : lw_in (Cond.instanceMethod yX10_ask) := ⟨List.mem_of_getElem? (i := 1288) (by decide +kernel), good_of_word (by decide +kernel)⟩
theorem dw_1350 : lw_in (Cond.methodLink R_law 194 yX10_ask) := ⟨List.mem_of_getElem? (i := 1287) (by decide +kernel), good_of_word (by decide +kernel)⟩
set_option maxRecDepth 100000 in
theorem dw_1351 : lw_in (Cond.code yX11_ask cX11_ask 6 (some .int)) := ⟨List.mem_of_getElem? (i := 1983) rfl, good_of_word (by decide +kernel)⟩
set_option maxRecDepth 100000 in
theorem dw_1352 : lw_in (Cond.code yX11_worstAt cX11_worstAt 4 (some .int)) := ⟨List.mem_of_getElem? (i := 1987) rfl, good_of_word (by decide +kernel)⟩
theorem dw_1353 : lw_in (Cond.selects RX11 yX11_worstAt yX11_worstAt) := ⟨List.mem_of_getElem? (i := 165) (by decide +kernel), good_of_word (by decide +kernel)⟩
theorem dw_1354 : lw_in (Cond.instanceMethod yX11_worstAt) := ⟨List.mem_of_getElem? (i := 1986) (by decide +kernel), good_of_word (by decide +kernel)⟩
theorem dw_1355 : lw_in (Cond.methodLink RX11 428 yX11_worstAt) := ⟨List.mem_of_getElem? (i := 1984) (by decide +kernel), good_of_word (by decide +kernel)⟩
theorem dw_1356 : lw_in (Cond.selects RX11 yX11_ask yX11_ask) := ⟨List.mem_of_getElem? (i := 1982) (by decide +kernel), good_of_word (by decide +kernel)⟩
theorem dw_1357 : lw_in (Cond.instanceMethod yX11_ask) := ⟨List.mem_of_getElem? (i := 1981) (by decide +kernel), good_of_word (by decide +kernel)⟩
theorem dw_1358 : lw_in (Cond.methodLink R_law 197 yX11_ask) := ⟨List.mem_of_getElem? (i := 1980) (by decide +kernel), good_of_word (by decide +kernel)⟩
set_option maxRecDepth 100000 in
theorem dw_1359 : lw_in (Cond.code yX10_hold cX10_hold 2 (some .boolean)) := ⟨List.mem_of_getElem? (i := 1299) rfl, good_of_word (by decide +kernel)⟩
set_option maxRecDepth 100000 in
theorem dw_1360 : lw_in (Cond.code yX3_keepIn cX3_keepIn 3 (some .boolean)) := ⟨List.mem_of_getElem? (i := 1303) rfl, good_of_word (by decide +kernel)⟩
theorem dw_1361 : lw_in (Cond.selects RX3 yX3_keepIn yX3_keepIn) := ⟨List.mem_of_getElem? (i := 94) (by decide +kernel), good_of_word (by decide +kernel)⟩
theorem dw_1362 : lw_in (Cond.instanceMethod yX3_keepIn) := ⟨List.mem_of_getElem? (i := 1302) (by decide +kernel), good_of_word (by decide +kernel)⟩
theorem dw_1363 : lw_in (Cond.selects RX10 yX10_hold yX10_hold) := ⟨List.mem_of_getElem? (i := 1298) (by decide +kernel), good_of_word (by decide +kernel)⟩
theorem dw_1364 : lw_in (Cond.instanceMethod yX10_hold) := ⟨List.mem_of_getElem? (i := 1297) (by decide +kernel), good_of_word (by decide +kernel)⟩
theorem dw_1365 : lw_in (Cond.methodLink R_law 198 yX10_hold) := ⟨List.mem_of_getElem? (i := 1296) (by decide +kernel), good_of_word (by decide +kernel)⟩
set_option maxRecDepth 100000 in
theorem dw_1366 : lw_in (Cond.code yX11_hold cX11_hold 3 (some .boolean)) := ⟨List.mem_of_getElem? (i := 1991) rfl, good_of_word (by decide +kernel)⟩
theorem dw_1367 : lw_in (Cond.selects RX11 yX11_hold yX11_hold) := ⟨List.mem_of_getElem? (i := 1990) (by decide +kernel), good_of_word (by decide +kernel)⟩
theorem dw_1368 : lw_in (Cond.instanceMethod yX11_hold) := ⟨List.mem_of_getElem? (i := 1989) (by decide +kernel), good_of_word (by decide +kernel)⟩
theorem dw_1369 : lw_in (Cond.methodLink R_law 201 yX11_hold) := ⟨List.mem_of_getElem? (i := 1988) (by decide +kernel), good_of_word (by decide +kernel)⟩
set_option maxRecDepth 100000 in
theorem dw_1370 : lw_in (Cond.code yX10_restore cX10_restore 2 (some .boolean)) := ⟨List.mem_of_getElem? (i := 1307) rfl, good_of_word (by decide +kernel)⟩
set_option maxRecDepth 100000 in
theorem dw_1371 : lw_in (Cond.code yX3_goOnFrom cX3_goOnFrom 3 (some .boolean)) := ⟨List.mem_of_getElem? (i := 1311) rfl, good_of_word (by decide +kernel)⟩
theorem dw_1372 : lw_in (Cond.selects RX3 yX3_goOnFrom yX3_goOnFrom) := ⟨List.mem_of_getElem? (i := 95) (by decide +kernel), good_of_word (by decide +kernel)⟩
theorem dw_1373 : lw_in (Cond.instanceMethod yX3_goOnFrom) := ⟨List.mem_of_getElem? (i := 1310) (by decide +kernel), good_of_word (by decide +kernel)⟩
theorem dw_1374 : lw_in (Cond.selects RX10 yX10_restore yX10_restore) := ⟨List.mem_of_getElem? (i := 1306) (by decide +kernel), good_of_word (by decide +kernel)⟩
theorem dw_1375 : lw_in (Cond.instanceMethod yX10_restore) := ⟨List.mem_of_getElem? (i := 1305) (by decide +kernel), good_of_word (by decide +kernel)⟩
theorem dw_1376 : lw_in (Cond.methodLink R_law 202 yX10_restore) := ⟨List.mem_of_getElem? (i := 1304) (by decide +kernel), good_of_word (by decide +kernel)⟩
set_option maxRecDepth 100000 in
theorem dw_1377 : lw_in (Cond.code yX11_restore cX11_restore 3 (some .boolean)) := ⟨List.mem_of_getElem? (i := 1995) rfl, good_of_word (by decide +kernel)⟩
theorem dw_1378 : lw_in (Cond.selects RX11 yX11_restore yX11_restore) := ⟨List.mem_of_getElem? (i := 1994) (by decide +kernel), good_of_word (by decide +kernel)⟩
theorem dw_1379 : lw_in (Cond.instanceMethod yX11_restore) := ⟨List.mem_of_getElem? (i := 1993) (by decide +kernel), good_of_word (by decide +kernel)⟩
theorem dw_1380 : lw_in (Cond.methodLink R_law 205 yX11_restore) := ⟨List.mem_of_getElem? (i := 1992) (by decide +kernel), good_of_word (by decide +kernel)⟩
set_option maxRecDepth 100000 in
theorem dw_1381 : lw_in (Cond.code yX10_count cX10_count 2 (some .int)) := ⟨List.mem_of_getElem? (i := 1315) rfl, good_of_word (by decide +kernel)⟩
set_option maxRecDepth 100000 in
theorem dw_1382 : lw_in (Cond.code yX10_buoysLying cX10_buoysLying 3 (some .int)) := ⟨List.mem_of_getElem? (i := 1326) rfl, good_of_word (by decide +kernel)⟩
theorem dw_1383 : lw_in (Cond.selects RX10 yX10_buoysLying yX10_buoysLying) := ⟨List.mem_of_getElem? (i := 97) (by decide +kernel), good_of_word (by decide +kernel)⟩
theorem dw_1384 : lw_in (Cond.instanceMethod yX10_buoysLying) := ⟨List.mem_of_getElem? (i := 1325) (by decide +kernel), good_of_word (by decide +kernel)⟩
theorem dw_1385 : lw_in (Cond.methodLink RX10 299 yX10_buoysLying) := ⟨List.mem_of_getElem? (i := 1323) (by decide +kernel), good_of_word (by decide +kernel)⟩
set_option maxRecDepth 100000 in
theorem dw_1386 : lw_in (Cond.code yX3_slotsHeld cX3_slotsHeld 3 (some .int)) := ⟨List.mem_of_getElem? (i := 1322) rfl, good_of_word (by decide +kernel)⟩
theorem dw_1387 : lw_in (Cond.selects RX3 yX3_slotsHeld yX3_slotsHeld) := ⟨List.mem_of_getElem? (i := 96) (by decide +kernel), good_of_word (by decide +kernel)⟩
theorem dw_1388 : lw_in (Cond.instanceMethod yX3_slotsHeld) := ⟨List.mem_of_getElem? (i := 1321) (by decide +kernel), good_of_word (by decide +kernel)⟩
set_option maxRecDepth 100000 in
theorem dw_1389 : lw_in (Cond.code yX10_sumOf cX10_sumOf 3 (some .int)) := ⟨List.mem_of_getElem? (i := 1318) rfl, good_of_word (by decide +kernel)⟩
theorem dw_1390 : lw_in (Cond.static yX10_sumOf) := ⟨List.mem_of_getElem? (i := 1317) (by decide +kernel), good_of_word (by decide +kernel)⟩
theorem dw_1391 : lw_in (Cond.methodLink RX10 289 yX10_sumOf) := ⟨List.mem_of_getElem? (i := 1316) (by decide +kernel), good_of_word (by decide +kernel)⟩
set_option maxRecDepth 100000 in
theorem dw_1392 : lw_in (Cond.code yX10_wavesFound cX10_wavesFound 3 (some .int)) := ⟨List.mem_of_getElem? (i := 1330) rfl, good_of_word (by decide +kernel)⟩
theorem dw_1393 : lw_in (Cond.selects RX10 yX10_wavesFound yX10_wavesFound) := ⟨List.mem_of_getElem? (i := 98) (by decide +kernel), good_of_word (by decide +kernel)⟩
theorem dw_1394 : lw_in (Cond.instanceMethod yX10_wavesFound) := ⟨List.mem_of_getElem? (i := 1329) (by decide +kernel), good_of_word (by decide +kernel)⟩
theorem dw_1395 : lw_in (Cond.methodLink RX10 302 yX10_wavesFound) := ⟨List.mem_of_getElem? (i := 1327) (by decide +kernel), good_of_word (by decide +kernel)⟩
set_option maxRecDepth 100000 in
theorem dw_1396 : lw_in (Cond.code yX10_faresOfAllHere cX10_faresOfAllHere 3 (some .int)) := ⟨List.mem_of_getElem? (i := 1338) rfl, good_of_word (by decide +kernel)⟩
theorem dw_1397 : lw_in (Cond.selects RX10 yX10_faresOfAllHere yX10_faresOfAllHere) := ⟨List.mem_of_getElem? (i := 100) (by decide +kernel), good_of_word (by decide +kernel)⟩
theorem dw_1398 : lw_in (Cond.instanceMethod yX10_faresOfAllHere) := ⟨List.mem_of_getElem? (i := 1337) (by decide +kernel), good_of_word (by decide +kernel)⟩
theorem dw_1399 : lw_in (Cond.methodLink RX10 311 yX10_faresOfAllHere) := ⟨List.mem_of_getElem? (i := 1335) (by decide +kernel), good_of_word (by decide +kernel)⟩
set_option maxRecDepth 100000 in
theorem dw_1400 : lw_in (Cond.code yX10_wavesWithNothing cX10_wavesWithNothing 3 (some .int)) := ⟨List.mem_of_getElem? (i := 1334) rfl, good_of_word (by decide +kernel)⟩
theorem dw_1401 : lw_in (Cond.selects RX10 yX10_wavesWithNothing yX10_wavesWithNothing) := ⟨List.mem_of_getElem? (i := 99) (by decide +kernel), good_of_word (by decide +kernel)⟩
theorem dw_1402 : lw_in (Cond.instanceMethod yX10_wavesWithNothing) := ⟨List.mem_of_getElem? (i := 1333) (by decide +kernel), good_of_word (by decide +kernel)⟩
theorem dw_1403 : lw_in (Cond.methodLink RX10 308 yX10_wavesWithNothing) := ⟨List.mem_of_getElem? (i := 1331) (by decide +kernel), good_of_word (by decide +kernel)⟩
theorem dw_1404 : lw_in (Cond.selects RX10 yX10_count yX10_count) := ⟨List.mem_of_getElem? (i := 1314) (by decide +kernel), good_of_word (by decide +kernel)⟩
theorem dw_1405 : lw_in (Cond.instanceMethod yX10_count) := ⟨List.mem_of_getElem? (i := 1313) (by decide +kernel), good_of_word (by decide +kernel)⟩
theorem dw_1406 : lw_in (Cond.methodLink R_law 206 yX10_count) := ⟨List.mem_of_getElem? (i := 1312) (by decide +kernel), good_of_word (by decide +kernel)⟩
set_option maxRecDepth 100000 in
theorem dw_1407 : lw_in (Cond.code yX11_count cX11_count 4 (some .int)) := ⟨List.mem_of_getElem? (i := 1999) rfl, good_of_word (by decide +kernel)⟩
set_option maxRecDepth 100000 in
theorem dw_1408 : lw_in (Cond.code yX11_sumNow cX11_sumNow 5 (some .int)) := ⟨List.mem_of_getElem? (i := 2007) rfl, good_of_word (by decide +kernel)⟩
theorem dw_1409 : lw_in (Cond.selects RX11 yX11_sumNow yX11_sumNow) := ⟨List.mem_of_getElem? (i := 167) (by decide +kernel), good_of_word (by decide +kernel)⟩
theorem dw_1410 : lw_in (Cond.instanceMethod yX11_sumNow) := ⟨List.mem_of_getElem? (i := 2006) (by decide +kernel), good_of_word (by decide +kernel)⟩
theorem dw_1411 : lw_in (Cond.methodLink RX11 434 yX11_sumNow) := ⟨List.mem_of_getElem? (i := 2004) (by decide +kernel), good_of_word (by decide +kernel)⟩
set_option maxRecDepth 100000 in
theorem dw_1412 : lw_in (Cond.code yX11_partiesIn cX11_partiesIn 4 (some .int)) := ⟨List.mem_of_getElem? (i := 2003) rfl, good_of_word (by decide +kernel)⟩
theorem dw_1413 : lw_in (Cond.selects RX11 yX11_partiesIn yX11_partiesIn) := ⟨List.mem_of_getElem? (i := 166) (by decide +kernel), good_of_word (by decide +kernel)⟩
theorem dw_1414 : lw_in (Cond.instanceMethod yX11_partiesIn) := ⟨List.mem_of_getElem? (i := 2002) (by decide +kernel), good_of_word (by decide +kernel)⟩
theorem dw_1415 : lw_in (Cond.methodLink RX11 431 yX11_partiesIn) := ⟨List.mem_of_getElem? (i := 2000) (by decide +kernel), good_of_word (by decide +kernel)⟩
theorem dw_1416 : lw_in (Cond.selects RX11 yX11_count yX11_count) := ⟨List.mem_of_getElem? (i := 1998) (by decide +kernel), good_of_word (by decide +kernel)⟩
theorem dw_1417 : lw_in (Cond.instanceMethod yX11_count) := ⟨List.mem_of_getElem? (i := 1997) (by decide +kernel), good_of_word (by decide +kernel)⟩
theorem dw_1418 : lw_in (Cond.methodLink R_law 209 yX11_count) := ⟨List.mem_of_getElem? (i := 1996) (by decide +kernel), good_of_word (by decide +kernel)⟩
