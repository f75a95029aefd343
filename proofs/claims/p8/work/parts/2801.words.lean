theorem dw_250 : lw_in (Cond.selects RX4 yX4_take yX4_take) := ⟨List.mem_of_getElem? (i := 21) rfl, good_of_word (by decide +kernel)⟩
theorem dw_251 : lw_in (Cond.instanceMethod yX4_take) := ⟨lw_t (tm_3 (List.mem_of_getElem? (i := 122) rfl)), good_of_word (by decide +kernel)⟩
theorem dw_252 : lw_in (Cond.methodLink RX4 81 yX4_take) := ⟨lw_t (tm_3 (List.mem_of_getElem? (i := 120) rfl)), good_of_word (by decide +kernel)⟩
theorem dw_253 : lw_in (Cond.selects RX4 yX4_fail yX4_fail) := ⟨List.mem_of_getElem? (i := 20) rfl, good_of_word (by decide +kernel)⟩
theorem dw_254 : lw_in (Cond.instanceMethod yX4_fail) := ⟨lw_t (tm_3 (List.mem_of_getElem? (i := 118) rfl)), good_of_word (by decide +kernel)⟩
theorem dw_255 : lw_in (Cond.methodLink RX4 70 yX4_fail) := ⟨lw_t (tm_3 (List.mem_of_getElem? (i := 116) rfl)), good_of_word (by decide +kernel)⟩
theorem dw_256 : lw_in (Cond.selects RX4 yX4_readWave yX4_readWave) := ⟨List.mem_of_getElem? (i := 19) rfl, good_of_word (by decide +kernel)⟩
theorem dw_257 : lw_in (Cond.instanceMethod yX4_readWave) := ⟨lw_t (tm_3 (List.mem_of_getElem? (i := 114) rfl)), good_of_word (by decide +kernel)⟩
theorem dw_258 : lw_in (Cond.methodLink RX4 84 yX4_readWave) := ⟨lw_t (tm_3 (List.mem_of_getElem? (i := 112) rfl)), good_of_word (by decide +kernel)⟩
set_option maxRecDepth 100000 in
theorem dw_259 : lw_in (Cond.code yX4_readWave cX4_readWave 5 none) := ⟨lw_t (tm_3 (List.mem_of_getElem? (i := 115) rfl)), good_of_word (by decide +kernel)⟩
theorem dw_260 : lw_in (Cond.selects RX4 yX4_failLater yX4_failLater) := ⟨List.mem_of_getElem? (i := 23) rfl, good_of_word (by decide +kernel)⟩
theorem dw_261 : lw_in (Cond.instanceMethod yX4_failLater) := ⟨lw_t (tm_3 (List.mem_of_getElem? (i := 130) rfl)), good_of_word (by decide +kernel)⟩
theorem dw_262 : lw_in (Cond.methodLink RX4 77 yX4_failLater) := ⟨lw_t (tm_3 (List.mem_of_getElem? (i := 128) rfl)), good_of_word (by decide +kernel)⟩
set_option maxRecDepth 100000 in
theorem dw_263 : lw_in (Cond.code yX4_fail cX4_fail 2 none) := ⟨lw_t (tm_3 (List.mem_of_getElem? (i := 119) rfl)), good_of_word (by decide +kernel)⟩
set_option maxRecDepth 100000 in
theorem dw_264 : lw_in (Cond.code yX4_take cX4_take 2 none) := ⟨lw_t (tm_3 (List.mem_of_getElem? (i := 123) rfl)), good_of_word (by decide +kernel)⟩
set_option maxRecDepth 100000 in
theorem dw_265 : lw_in (Cond.code yX4_takeInt cX4_takeInt 3 (some .int)) := ⟨lw_t (tm_3 (List.mem_of_getElem? (i := 127) rfl)), good_of_word (by decide +kernel)⟩
set_option maxRecDepth 100000 in
theorem dw_266 : lw_in (Cond.code yX4_failLater cX4_failLater 3 none) := ⟨lw_t (tm_3 (List.mem_of_getElem? (i := 131) rfl)), good_of_word (by decide +kernel)⟩
set_option maxRecDepth 100000 in
theorem dw_267 : lw_in (Cond.code yX4_readParty cX4_readParty 3 none) := ⟨lw_t (tm_3 (List.mem_of_getElem? (i := 135) rfl)), good_of_word (by decide +kernel)⟩
theorem dw_268 : lw_in (Cond.selects RX4 yX4_isTold yX4_isTold) := ⟨List.mem_of_getElem? (i := 25) rfl, good_of_word (by decide +kernel)⟩
theorem dw_269 : lw_in (Cond.instanceMethod yX4_isTold) := ⟨lw_t (tm_3 (List.mem_of_getElem? (i := 138) rfl)), good_of_word (by decide +kernel)⟩
theorem dw_270 : lw_in (Cond.methodLink RX4 109 yX4_isTold) := ⟨lw_t (tm_3 (List.mem_of_getElem? (i := 136) rfl)), good_of_word (by decide +kernel)⟩
theorem dw_271 : lw_in (Cond.fieldLink RX4 18 "GuessFerry$Reader" "names" "[J") := ⟨lw_t (tm_2 (List.mem_of_getElem? (i := 26) rfl)), good_of_word (by decide +kernel)⟩
set_option maxRecDepth 100000 in
theorem dw_272 : lw_in (Cond.code yX4_isTold cX4_isTold 4 (some .boolean)) := ⟨lw_t (tm_3 (List.mem_of_getElem? (i := 139) rfl)), good_of_word (by decide +kernel)⟩
set_option maxRecDepth 100000 in
theorem dw_273 : lw_in (Cond.code yX4_readLaw cX4_readLaw 3 none) := ⟨lw_t (tm_3 (List.mem_of_getElem? (i := 143) rfl)), good_of_word (by decide +kernel)⟩
theorem dw_274 : lw_in (Cond.selects RX4 yX4_readPart yX4_readPart) := ⟨List.mem_of_getElem? (i := 27) rfl, good_of_word (by decide +kernel)⟩
theorem dw_275 : lw_in (Cond.instanceMethod yX4_readPart) := ⟨lw_t (tm_3 (List.mem_of_getElem? (i := 147) rfl)), good_of_word (by decide +kernel)⟩
theorem dw_276 : lw_in (Cond.methodLink RX4 128 yX4_readPart) := ⟨lw_t (tm_3 (List.mem_of_getElem? (i := 145) rfl)), good_of_word (by decide +kernel)⟩
set_option maxRecDepth 100000 in
theorem dw_277 : lw_in (Cond.code yX4_readPart cX4_readPart 2 none) := ⟨lw_t (tm_3 (List.mem_of_getElem? (i := 148) rfl)), good_of_word (by decide +kernel)⟩
theorem dw_278 : lw_in (Cond.selects RX4 yX4_readSum yX4_readSum) := ⟨List.mem_of_getElem? (i := 28) rfl, good_of_word (by decide +kernel)⟩
theorem dw_279 : lw_in (Cond.instanceMethod yX4_readSum) := ⟨lw_t (tm_3 (List.mem_of_getElem? (i := 151) rfl)), good_of_word (by decide +kernel)⟩
theorem dw_280 : lw_in (Cond.methodLink RX4 131 yX4_readSum) := ⟨lw_t (tm_3 (List.mem_of_getElem? (i := 149) rfl)), good_of_word (by decide +kernel)⟩
set_option maxRecDepth 100000 in
theorem dw_281 : lw_in (Cond.code yX4_readSum cX4_readSum 4 none) := ⟨lw_t (tm_3 (List.mem_of_getElem? (i := 152) rfl)), good_of_word (by decide +kernel)⟩
theorem dw_282 : lw_in (Cond.selects RX1 yX1_putSign yX1_putSign) := ⟨List.mem_of_getElem? (i := 31) rfl, good_of_word (by decide +kernel)⟩
theorem dw_283 : lw_in (Cond.instanceMethod yX1_putSign) := ⟨lw_t (tm_3 (List.mem_of_getElem? (i := 165) rfl)), good_of_word (by decide +kernel)⟩
theorem dw_284 : lw_in (Cond.selects RX4 yX4_readProduct yX4_readProduct) := ⟨List.mem_of_getElem? (i := 29) rfl, good_of_word (by decide +kernel)⟩
theorem dw_285 : lw_in (Cond.instanceMethod yX4_readProduct) := ⟨lw_t (tm_3 (List.mem_of_getElem? (i := 155) rfl)), good_of_word (by decide +kernel)⟩
theorem dw_286 : lw_in (Cond.methodLink RX4 137 yX4_readProduct) := ⟨lw_t (tm_3 (List.mem_of_getElem? (i := 153) rfl)), good_of_word (by decide +kernel)⟩
set_option maxRecDepth 100000 in
theorem dw_287 : lw_in (Cond.code yX4_readUnit cX4_readUnit 4 none) := ⟨lw_t (tm_3 (List.mem_of_getElem? (i := 160) rfl)), good_of_word (by decide +kernel)⟩
theorem dw_288 : lw_in (Cond.selects RX4 yX4_readUnit yX4_readUnit) := ⟨List.mem_of_getElem? (i := 30) rfl, good_of_word (by decide +kernel)⟩
theorem dw_289 : lw_in (Cond.instanceMethod yX4_readUnit) := ⟨lw_t (tm_3 (List.mem_of_getElem? (i := 159) rfl)), good_of_word (by decide +kernel)⟩
theorem dw_290 : lw_in (Cond.methodLink RX4 143 yX4_readUnit) := ⟨lw_t (tm_3 (List.mem_of_getElem? (i := 157) rfl)), good_of_word (by decide +kernel)⟩
set_option maxRecDepth 100000 in
theorem dw_291 : lw_in (Cond.code yX4_readProduct cX4_readProduct 4 none) := ⟨lw_t (tm_3 (List.mem_of_getElem? (i := 156) rfl)), good_of_word (by decide +kernel)⟩
set_option maxRecDepth 100000 in
theorem dw_292 : lw_in (Cond.code yX1_putSign cX1_putSign 2 none) := ⟨lw_t (tm_3 (List.mem_of_getElem? (i := 166) rfl)), good_of_word (by decide +kernel)⟩
set_option maxRecDepth 100000 in
theorem dw_293 : lw_in (Cond.code yX5_addUp cX5_addUp 3 none) := ⟨lw_t (tm_3 (List.mem_of_getElem? (i := 171) rfl)), good_of_word (by decide +kernel)⟩
theorem dw_294 : lw_in (Cond.selects RX5 yX5_oddsAt yX5_oddsAt) := ⟨List.mem_of_getElem? (i := 33) rfl, good_of_word (by decide +kernel)⟩
theorem dw_295 : lw_in (Cond.instanceMethod yX5_oddsAt) := ⟨lw_t (tm_3 (List.mem_of_getElem? (i := 174) rfl)), good_of_word (by decide +kernel)⟩
theorem dw_296 : lw_in (Cond.methodLink RX5 51 yX5_oddsAt) := ⟨lw_t (tm_3 (List.mem_of_getElem? (i := 172) rfl)), good_of_word (by decide +kernel)⟩
theorem dw_297 : lw_in (Cond.fieldLink RX5 18 "GuessFerry$Sound" "likely" "[I") := ⟨lw_t (tm_1 (List.mem_of_getElem? (i := 119) rfl)), good_of_word (by decide +kernel)⟩
theorem dw_298 : lw_in (Cond.fieldLink RX5 15 "GuessFerry$Sound" "oddsSums" "[I") := ⟨lw_t (tm_1 (List.mem_of_getElem? (i := 118) rfl)), good_of_word (by decide +kernel)⟩
set_option maxRecDepth 100000 in
theorem dw_299 : lw_in (Cond.code yX5_oddsAt cX5_oddsAt 3 (some .int)) := ⟨lw_t (tm_3 (List.mem_of_getElem? (i := 175) rfl)), good_of_word (by decide +kernel)⟩
theorem dw_300 : lw_in (Cond.fieldLink RX5 9 "GuessFerry$Sound" "odds" "[I") := ⟨lw_t (tm_1 (List.mem_of_getElem? (i := 116) rfl)), good_of_word (by decide +kernel)⟩
set_option maxRecDepth 100000 in
theorem dw_301 : lw_in (Cond.code yX5_copyFrom cX5_copyFrom 2 none) := ⟨lw_t (tm_3 (List.mem_of_getElem? (i := 179) rfl)), good_of_word (by decide +kernel)⟩
theorem dw_302 : lw_in (Cond.selects RX1 yX1_copyFrom yX1_copyFrom) := ⟨List.mem_of_getElem? (i := 35) rfl, good_of_word (by decide +kernel)⟩
theorem dw_303 : lw_in (Cond.instanceMethod yX1_copyFrom) := ⟨lw_t (tm_3 (List.mem_of_getElem? (i := 185) rfl)), good_of_word (by decide +kernel)⟩
theorem dw_304 : lw_in (Cond.fieldLink RX5 24 "GuessFerry$Sound" "nerve" "[I") := ⟨lw_t (tm_1 (List.mem_of_getElem? (i := 125) rfl)), good_of_word (by decide +kernel)⟩
theorem dw_305 : lw_in (Cond.fieldLink RX5 21 "GuessFerry$Sound" "heavy" "[I") := ⟨lw_t (tm_1 (List.mem_of_getElem? (i := 121) rfl)), good_of_word (by decide +kernel)⟩
theorem dw_306 : lw_in (Cond.initialized "java/lang/System") := ⟨lw_t (tm_1 (List.mem_of_getElem? (i := 20) rfl)), good_of_word (by decide +kernel)⟩
theorem dw_307 : lw_in (Cond.static arraycopyName) := ⟨lw_t (tm_3 (List.mem_of_getElem? (i := 181) rfl)), good_of_word (by decide +kernel)⟩
theorem dw_308 : lw_in (Cond.native arraycopyName) := ⟨lw_t (tm_3 (List.mem_of_getElem? (i := 182) rfl)), good_of_word (by decide +kernel)⟩
theorem dw_309 : lw_in (Cond.methodLink RX5 55 arraycopyName) := ⟨lw_t (tm_3 (List.mem_of_getElem? (i := 180) rfl)), good_of_word (by decide +kernel)⟩
set_option maxRecDepth 100000 in
theorem dw_310 : lw_in (Cond.code yX1_copyFrom cX1_copyFrom 2 none) := ⟨lw_t (tm_3 (List.mem_of_getElem? (i := 186) rfl)), good_of_word (by decide +kernel)⟩
theorem dw_311 : lw_in (Cond.methodLink RX1 51 arraycopyName) := ⟨lw_t (tm_3 (List.mem_of_getElem? (i := 187) rfl)), good_of_word (by decide +kernel)⟩
set_option maxRecDepth 100000 in
theorem dw_312 : lw_in (Cond.code yX6_startOver cX6_startOver 1 none) := ⟨lw_t (tm_2 (List.mem_of_getElem? (i := 195) rfl)), good_of_word (by decide +kernel)⟩
theorem dw_313 : lw_in (Cond.initialized RJ7) := ⟨lw_t (tm_1 (List.mem_of_getElem? (i := 16) rfl)), good_of_word (by decide +kernel)⟩
theorem dw_314 : lw_in (Cond.static yJ7_fill_53178) := ⟨lw_t (tm_2 (List.mem_of_getElem? (i := 197) rfl)), good_of_word (by decide +kernel)⟩
theorem dw_315 : lw_in (Cond.methodLink RX6 27 yJ7_fill_53178) := ⟨lw_t (tm_2 (List.mem_of_getElem? (i := 196) rfl)), good_of_word (by decide +kernel)⟩
theorem dw_316 : lw_in (Cond.fieldLink RX6 37 "GuessFerry$Standing" "paid" "I") := ⟨lw_t (tm_2 (List.mem_of_getElem? (i := 77) rfl)), good_of_word (by decide +kernel)⟩
theorem dw_317 : lw_in (Cond.fieldLink RX6 33 "GuessFerry$Standing" "year" "I") := ⟨lw_t (tm_2 (List.mem_of_getElem? (i := 74) rfl)), good_of_word (by decide +kernel)⟩
theorem dw_318 : lw_in (Cond.fieldLink RX6 24 "GuessFerry$Standing" "goes" "[I") := ⟨lw_t (tm_2 (List.mem_of_getElem? (i := 70) rfl)), good_of_word (by decide +kernel)⟩
theorem dw_319 : lw_in (Cond.fieldLink RX6 21 "GuessFerry$Standing" "status" "[I") := ⟨lw_t (tm_2 (List.mem_of_getElem? (i := 67) rfl)), good_of_word (by decide +kernel)⟩
theorem dw_320 : lw_in (Cond.fieldLink RX6 18 "GuessFerry$Standing" "shifted" "[I") := ⟨lw_t (tm_2 (List.mem_of_getElem? (i := 64) rfl)), good_of_word (by decide +kernel)⟩
theorem dw_321 : lw_in (Cond.fieldLink RX6 15 "GuessFerry$Standing" "buoys" "[I") := ⟨lw_t (tm_2 (List.mem_of_getElem? (i := 60) rfl)), good_of_word (by decide +kernel)⟩
theorem dw_322 : lw_in (Cond.fieldLink RX6 9 "GuessFerry$Standing" "found" "[I") := ⟨lw_t (tm_2 (List.mem_of_getElem? (i := 56) rfl)), good_of_word (by decide +kernel)⟩
set_option maxRecDepth 100000 in
theorem dw_323 : lw_in (Cond.code yJ7_fill_53178 cJ7_fill_53178 4 none) := ⟨lw_t (tm_2 (List.mem_of_getElem? (i := 198) rfl)), good_of_word (by decide +kernel)⟩
set_option maxRecDepth 100000 in
theorem dw_324 : lw_in (Cond.code yX3_forgetAll cX3_forgetAll 2 none) := ⟨lw_t (tm_3 (List.mem_of_getElem? (i := 191) rfl)), good_of_word (by decide +kernel)⟩
theorem dw_325 : lw_in (Cond.fieldLink RX3 20 "GuessFerry$Past" "isHeld" "[Z") := ⟨lw_t (tm_2 (List.mem_of_getElem? (i := 106) rfl)), good_of_word (by decide +kernel)⟩
theorem dw_326 : lw_in (Cond.fieldLink RX3 25 "GuessFerry$Past" "size" "I") := ⟨lw_t (tm_2 (List.mem_of_getElem? (i := 108) rfl)), good_of_word (by decide +kernel)⟩
theorem dw_327 : lw_in (Cond.selects RX10 yX10_read yX10_read) := ⟨lw_t (tm_3 (List.mem_of_getElem? (i := 5) rfl)), good_of_word (by decide +kernel)⟩
theorem dw_328 : lw_in (Cond.instanceMethod yX10_read) := ⟨lw_t (tm_3 (List.mem_of_getElem? (i := 4) rfl)), good_of_word (by decide +kernel)⟩
theorem dw_329 : lw_in (Cond.methodLink R_law 23 yX10_read) := ⟨lw_t (tm_3 (List.mem_of_getElem? (i := 3) rfl)), good_of_word (by decide +kernel)⟩
set_option maxRecDepth 100000 in
theorem dw_330 : lw_in (Cond.code yX11_read cX11_read 2 (some .int)) := ⟨lw_t (tm_6 (List.mem_of_getElem? (i := 185) rfl)), good_of_word (by decide +kernel)⟩
theorem dw_331 : lw_in (Cond.selects RX11 yX11_keepsRow yX11_keepsRow) := ⟨List.mem_of_getElem? (i := 103) rfl, good_of_word (by decide +kernel)⟩
theorem dw_332 : lw_in (Cond.instanceMethod yX11_keepsRow) := ⟨lw_t (tm_5 (List.mem_of_getElem? (i := 234) rfl)), good_of_word (by decide +kernel)⟩
theorem dw_333 : lw_in (Cond.methodLink RX11 145 yX11_keepsRow) := ⟨lw_t (tm_5 (List.mem_of_getElem? (i := 232) rfl)), good_of_word (by decide +kernel)⟩
theorem dw_334 : lw_in (Cond.selects RX11 yX11_begins yX11_begins) := ⟨List.mem_of_getElem? (i := 102) rfl, good_of_word (by decide +kernel)⟩
theorem dw_335 : lw_in (Cond.instanceMethod yX11_begins) := ⟨lw_t (tm_5 (List.mem_of_getElem? (i := 230) rfl)), good_of_word (by decide +kernel)⟩
theorem dw_336 : lw_in (Cond.methodLink RX11 142 yX11_begins) := ⟨lw_t (tm_5 (List.mem_of_getElem? (i := 228) rfl)), good_of_word (by decide +kernel)⟩
theorem dw_337 : lw_in (Cond.selects RX11 yX11_tellOne yX11_tellOne) := ⟨List.mem_of_getElem? (i := 110) rfl, good_of_word (by decide +kernel)⟩
theorem dw_338 : lw_in (Cond.instanceMethod yX11_tellOne) := ⟨lw_t (tm_6 (List.mem_of_getElem? (i := 214) rfl)), good_of_word (by decide +kernel)⟩
theorem dw_339 : lw_in (Cond.methodLink RX11 227 yX11_tellOne) := ⟨lw_t (tm_6 (List.mem_of_getElem? (i := 212) rfl)), good_of_word (by decide +kernel)⟩
theorem dw_340 : lw_in (Cond.selects RX11 yX11_is yX11_is) := ⟨List.mem_of_getElem? (i := 109) rfl, good_of_word (by decide +kernel)⟩
theorem dw_341 : lw_in (Cond.instanceMethod yX11_is) := ⟨lw_t (tm_6 (List.mem_of_getElem? (i := 210) rfl)), good_of_word (by decide +kernel)⟩
theorem dw_342 : lw_in (Cond.methodLink RX11 203 yX11_is) := ⟨lw_t (tm_6 (List.mem_of_getElem? (i := 208) rfl)), good_of_word (by decide +kernel)⟩
theorem dw_343 : lw_in (Cond.selects RX11 yX11_plain yX11_plain) := ⟨List.mem_of_getElem? (i := 101) rfl, good_of_word (by decide +kernel)⟩
theorem dw_344 : lw_in (Cond.instanceMethod yX11_plain) := ⟨lw_t (tm_5 (List.mem_of_getElem? (i := 219) rfl)), good_of_word (by decide +kernel)⟩
theorem dw_345 : lw_in (Cond.methodLink RX11 134 yX11_plain) := ⟨lw_t (tm_5 (List.mem_of_getElem? (i := 217) rfl)), good_of_word (by decide +kernel)⟩
theorem dw_346 : lw_in (Cond.selects RX11 yX11_cut yX11_cut) := ⟨List.mem_of_getElem? (i := 105) rfl, good_of_word (by decide +kernel)⟩
theorem dw_347 : lw_in (Cond.instanceMethod yX11_cut) := ⟨lw_t (tm_6 (List.mem_of_getElem? (i := 188) rfl)), good_of_word (by decide +kernel)⟩
theorem dw_348 : lw_in (Cond.methodLink RX11 209 yX11_cut) := ⟨lw_t (tm_6 (List.mem_of_getElem? (i := 186) rfl)), good_of_word (by decide +kernel)⟩
theorem dw_349 : lw_in (Cond.fieldLink RX11 128 "GuessFerryModel" "isHeld" "[Z") := ⟨lw_t (tm_6 (List.mem_of_getElem? (i := 51) rfl)), good_of_word (by decide +kernel)⟩
theorem dw_350 : lw_in (Cond.fieldLink RX11 233 "GuessFerryModel" "tolds" "I") := ⟨lw_t (tm_6 (List.mem_of_getElem? (i := 46) rfl)), good_of_word (by decide +kernel)⟩
theorem dw_351 : lw_in (Cond.fieldLink RX11 230 "GuessFerryModel" "undos" "I") := ⟨lw_t (tm_6 (List.mem_of_getElem? (i := 43) rfl)), good_of_word (by decide +kernel)⟩
theorem dw_352 : lw_in (Cond.fieldLink RX11 37 "GuessFerryModel" "place" "I") := ⟨lw_t (tm_6 (List.mem_of_getElem? (i := 12) rfl)), good_of_word (by decide +kernel)⟩
theorem dw_353 : lw_in (Cond.fieldLink RX11 197 "GuessFerryModel" "worstPlace" "I") := ⟨lw_t (tm_6 (List.mem_of_getElem? (i := 11) rfl)), good_of_word (by decide +kernel)⟩
theorem dw_354 : lw_in (Cond.fieldLink RX11 191 "GuessFerryModel" "faultPlace" "I") := ⟨lw_t (tm_6 (List.mem_of_getElem? (i := 9) rfl)), good_of_word (by decide +kernel)⟩
theorem dw_355 : lw_in (Cond.fieldLink RX11 224 "GuessFerryModel" "codes" "I") := ⟨lw_t (tm_6 (List.mem_of_getElem? (i := 30) rfl)), good_of_word (by decide +kernel)⟩
theorem dw_356 : lw_in (Cond.fieldLink RX11 221 "GuessFerryModel" "branches" "I") := ⟨lw_t (tm_6 (List.mem_of_getElem? (i := 24) rfl)), good_of_word (by decide +kernel)⟩
theorem dw_357 : lw_in (Cond.fieldLink RX11 218 "GuessFerryModel" "side" "I") := ⟨lw_t (tm_6 (List.mem_of_getElem? (i := 14) rfl)), good_of_word (by decide +kernel)⟩
theorem dw_358 : lw_in (Cond.fieldLink RX11 215 "GuessFerryModel" "live" "I") := ⟨lw_t (tm_6 (List.mem_of_getElem? (i := 13) rfl)), good_of_word (by decide +kernel)⟩
theorem dw_359 : lw_in (Cond.fieldLink RX11 194 "GuessFerryModel" "worst" "I") := ⟨lw_t (tm_6 (List.mem_of_getElem? (i := 10) rfl)), good_of_word (by decide +kernel)⟩
theorem dw_360 : lw_in (Cond.fieldLink RX11 185 "GuessFerryModel" "fault" "I") := ⟨lw_t (tm_6 (List.mem_of_getElem? (i := 8) rfl)), good_of_word (by decide +kernel)⟩
theorem dw_361 : lw_in (Cond.fieldLink RX11 212 "GuessFerryModel" "open" "I") := ⟨lw_t (tm_6 (List.mem_of_getElem? (i := 7) rfl)), good_of_word (by decide +kernel)⟩
theorem dw_362 : lw_in (Cond.fieldLink RX11 188 "GuessFerryModel" "t" "I") := ⟨lw_t (tm_6 (List.mem_of_getElem? (i := 6) rfl)), good_of_word (by decide +kernel)⟩
theorem dw_363 : lw_in (Cond.fieldLink RX11 17 "GuessFerryModel" "text" "[B") := ⟨lw_t (tm_5 (List.mem_of_getElem? (i := 238) rfl)), good_of_word (by decide +kernel)⟩
theorem dw_364 : lw_in (Cond.fieldLink RX11 154 "GuessFerryModel" "size" "I") := ⟨lw_t (tm_5 (List.mem_of_getElem? (i := 239) rfl)), good_of_word (by decide +kernel)⟩
set_option maxRecDepth 100000 in
theorem dw_365 : lw_in (Cond.code yX11_cut cX11_cut 8 none) := ⟨lw_t (tm_6 (List.mem_of_getElem? (i := 189) rfl)), good_of_word (by decide +kernel)⟩
theorem dw_366 : lw_in (Cond.selects RX11 yX11_sign yX11_sign) := ⟨List.mem_of_getElem? (i := 108) rfl, good_of_word (by decide +kernel)⟩
theorem dw_367 : lw_in (Cond.instanceMethod yX11_sign) := ⟨lw_t (tm_6 (List.mem_of_getElem? (i := 206) rfl)), good_of_word (by decide +kernel)⟩
theorem dw_368 : lw_in (Cond.methodLink RX11 181 yX11_sign) := ⟨lw_t (tm_6 (List.mem_of_getElem? (i := 204) rfl)), good_of_word (by decide +kernel)⟩
theorem dw_369 : lw_in (Cond.static yX11_isDigit) := ⟨lw_t (tm_6 (List.mem_of_getElem? (i := 202) rfl)), good_of_word (by decide +kernel)⟩
theorem dw_370 : lw_in (Cond.methodLink RX11 178 yX11_isDigit) := ⟨lw_t (tm_6 (List.mem_of_getElem? (i := 201) rfl)), good_of_word (by decide +kernel)⟩
theorem dw_371 : lw_in (Cond.static yX11_appends) := ⟨lw_t (tm_5 (List.mem_of_getElem? (i := 225) rfl)), good_of_word (by decide +kernel)⟩
theorem dw_372 : lw_in (Cond.methodLink RX11 159 yX11_appends) := ⟨lw_t (tm_5 (List.mem_of_getElem? (i := 224) rfl)), good_of_word (by decide +kernel)⟩
theorem dw_373 : lw_in (Cond.static yX11_isLetter) := ⟨lw_t (tm_6 (List.mem_of_getElem? (i := 199) rfl)), good_of_word (by decide +kernel)⟩
theorem dw_374 : lw_in (Cond.methodLink RX11 174 yX11_isLetter) := ⟨lw_t (tm_6 (List.mem_of_getElem? (i := 198) rfl)), good_of_word (by decide +kernel)⟩
theorem dw_375 : lw_in (Cond.selects RX11 yX11_token yX11_token) := ⟨List.mem_of_getElem? (i := 107) rfl, good_of_word (by decide +kernel)⟩
theorem dw_376 : lw_in (Cond.instanceMethod yX11_token) := ⟨lw_t (tm_6 (List.mem_of_getElem? (i := 196) rfl)), good_of_word (by decide +kernel)⟩
theorem dw_377 : lw_in (Cond.methodLink RX11 170 yX11_token) := ⟨lw_t (tm_6 (List.mem_of_getElem? (i := 194) rfl)), good_of_word (by decide +kernel)⟩
theorem dw_378 : lw_in (Cond.selects RX11 yX11_byteAt yX11_byteAt) := ⟨List.mem_of_getElem? (i := 106) rfl, good_of_word (by decide +kernel)⟩
theorem dw_379 : lw_in (Cond.instanceMethod yX11_byteAt) := ⟨lw_t (tm_6 (List.mem_of_getElem? (i := 192) rfl)), good_of_word (by decide +kernel)⟩
theorem dw_380 : lw_in (Cond.methodLink RX11 166 yX11_byteAt) := ⟨lw_t (tm_6 (List.mem_of_getElem? (i := 190) rfl)), good_of_word (by decide +kernel)⟩
theorem dw_381 : lw_in (Cond.fieldLink RX11 34 "GuessFerryModel" "keys" "[J") := ⟨lw_t (tm_6 (List.mem_of_getElem? (i := 4) rfl)), good_of_word (by decide +kernel)⟩
theorem dw_382 : lw_in (Cond.fieldLink RX11 163 "GuessFerryModel" "tokens" "I") := ⟨lw_t (tm_6 (List.mem_of_getElem? (i := 5) rfl)), good_of_word (by decide +kernel)⟩
set_option maxRecDepth 100000 in
theorem dw_383 : lw_in (Cond.code yX11_byteAt cX11_byteAt 2 (some .int)) := ⟨lw_t (tm_6 (List.mem_of_getElem? (i := 193) rfl)), good_of_word (by decide +kernel)⟩
set_option maxRecDepth 100000 in
theorem dw_384 : lw_in (Cond.code yX11_token cX11_token 6 none) := ⟨lw_t (tm_6 (List.mem_of_getElem? (i := 197) rfl)), good_of_word (by decide +kernel)⟩
theorem dw_385 : lw_in (Cond.fieldLink RX11 30 "GuessFerryModel" "tName" "[J") := ⟨lw_t (tm_6 (List.mem_of_getElem? (i := 3) rfl)), good_of_word (by decide +kernel)⟩
theorem dw_386 : lw_in (Cond.fieldLink RX11 27 "GuessFerryModel" "tValue" "[I") := ⟨lw_t (tm_6 (List.mem_of_getElem? (i := 2) rfl)), good_of_word (by decide +kernel)⟩
theorem dw_387 : lw_in (Cond.fieldLink RX11 24 "GuessFerryModel" "tPlace" "[I") := ⟨lw_t (tm_6 (List.mem_of_getElem? (i := 1) rfl)), good_of_word (by decide +kernel)⟩
theorem dw_388 : lw_in (Cond.fieldLink RX11 20 "GuessFerryModel" "tKind" "[I") := ⟨lw_t (tm_6 (List.mem_of_getElem? (i := 0) rfl)), good_of_word (by decide +kernel)⟩
set_option maxRecDepth 100000 in
theorem dw_389 : lw_in (Cond.code yX11_isLetter cX11_isLetter 1 (some .boolean)) := ⟨lw_t (tm_6 (List.mem_of_getElem? (i := 200) rfl)), good_of_word (by decide +kernel)⟩
set_option maxRecDepth 100000 in
theorem dw_390 : lw_in (Cond.code yX11_appends cX11_appends 3 (some .long)) := ⟨lw_t (tm_5 (List.mem_of_getElem? (i := 226) rfl)), good_of_word (by decide +kernel)⟩
theorem dw_391 : lw_in (Cond.constantLong RX11 157 (27)) := ⟨lw_t (tm_5 (List.mem_of_getElem? (i := 227) rfl)), good_of_word (by decide +kernel)⟩
set_option maxRecDepth 100000 in
theorem dw_392 : lw_in (Cond.code yX11_isDigit cX11_isDigit 1 (some .boolean)) := ⟨lw_t (tm_6 (List.mem_of_getElem? (i := 203) rfl)), good_of_word (by decide +kernel)⟩
set_option maxRecDepth 100000 in
theorem dw_393 : lw_in (Cond.code yX11_sign cX11_sign 5 (some .int)) := ⟨lw_t (tm_6 (List.mem_of_getElem? (i := 207) rfl)), good_of_word (by decide +kernel)⟩
set_option maxRecDepth 100000 in
theorem dw_394 : lw_in (Cond.code yX11_plain cX11_plain 3 none) := ⟨lw_t (tm_5 (List.mem_of_getElem? (i := 220) rfl)), good_of_word (by decide +kernel)⟩
theorem dw_395 : lw_in (Cond.fieldLink RX11 64 "GuessFerryModel" "lawLast" "[I") := ⟨lw_t (tm_6 (List.mem_of_getElem? (i := 23) rfl)), good_of_word (by decide +kernel)⟩
theorem dw_396 : lw_in (Cond.fieldLink RX11 61 "GuessFerryModel" "lawFirst" "[I") := ⟨lw_t (tm_6 (List.mem_of_getElem? (i := 22) rfl)), good_of_word (by decide +kernel)⟩
theorem dw_397 : lw_in (Cond.fieldLink RX11 58 "GuessFerryModel" "seed" "[I") := ⟨lw_t (tm_6 (List.mem_of_getElem? (i := 21) rfl)), good_of_word (by decide +kernel)⟩
theorem dw_398 : lw_in (Cond.fieldLink RX11 49 "GuessFerryModel" "parties" "[I") := ⟨lw_t (tm_6 (List.mem_of_getElem? (i := 18) rfl)), good_of_word (by decide +kernel)⟩
theorem dw_399 : lw_in (Cond.fieldLink RX11 40 "GuessFerryModel" "waves" "[I") := ⟨lw_t (tm_6 (List.mem_of_getElem? (i := 15) rfl)), good_of_word (by decide +kernel)⟩
set_option maxRecDepth 100000 in
theorem dw_400 : lw_in (Cond.code yX11_is cX11_is 2 (some .boolean)) := ⟨lw_t (tm_6 (List.mem_of_getElem? (i := 211) rfl)), good_of_word (by decide +kernel)⟩
set_option maxRecDepth 100000 in
theorem dw_401 : lw_in (Cond.code yX11_tellOne cX11_tellOne 2 none) := ⟨lw_t (tm_6 (List.mem_of_getElem? (i := 215) rfl)), good_of_word (by decide +kernel)⟩
theorem dw_402 : lw_in (Cond.selects RX11 yX11_tellLaw yX11_tellLaw) := ⟨List.mem_of_getElem? (i := 119) rfl, good_of_word (by decide +kernel)⟩
theorem dw_403 : lw_in (Cond.instanceMethod yX11_tellLaw) := ⟨lw_t (tm_7 (List.mem_of_getElem? (i := 10) rfl)), good_of_word (by decide +kernel)⟩
theorem dw_404 : lw_in (Cond.methodLink RX11 252 yX11_tellLaw) := ⟨lw_t (tm_7 (List.mem_of_getElem? (i := 8) rfl)), good_of_word (by decide +kernel)⟩
theorem dw_405 : lw_in (Cond.selects RX11 yX11_tellParty yX11_tellParty) := ⟨List.mem_of_getElem? (i := 118) rfl, good_of_word (by decide +kernel)⟩
theorem dw_406 : lw_in (Cond.instanceMethod yX11_tellParty) := ⟨lw_t (tm_7 (List.mem_of_getElem? (i := 6) rfl)), good_of_word (by decide +kernel)⟩
theorem dw_407 : lw_in (Cond.methodLink RX11 243 yX11_tellParty) := ⟨lw_t (tm_7 (List.mem_of_getElem? (i := 4) rfl)), good_of_word (by decide +kernel)⟩
theorem dw_408 : lw_in (Cond.selects RX11 yX11_must yX11_must) := ⟨List.mem_of_getElem? (i := 117) rfl, good_of_word (by decide +kernel)⟩
theorem dw_409 : lw_in (Cond.instanceMethod yX11_must) := ⟨lw_t (tm_7 (List.mem_of_getElem? (i := 2) rfl)), good_of_word (by decide +kernel)⟩
theorem dw_410 : lw_in (Cond.methodLink RX11 249 yX11_must) := ⟨lw_t (tm_7 (List.mem_of_getElem? (i := 0) rfl)), good_of_word (by decide +kernel)⟩
theorem dw_411 : lw_in (Cond.selects RX11 yX11_bounded yX11_bounded) := ⟨List.mem_of_getElem? (i := 115) rfl, good_of_word (by decide +kernel)⟩
theorem dw_412 : lw_in (Cond.instanceMethod yX11_bounded) := ⟨lw_t (tm_6 (List.mem_of_getElem? (i := 234) rfl)), good_of_word (by decide +kernel)⟩
theorem dw_413 : lw_in (Cond.methodLink RX11 246 yX11_bounded) := ⟨lw_t (tm_6 (List.mem_of_getElem? (i := 232) rfl)), good_of_word (by decide +kernel)⟩
theorem dw_414 : lw_in (Cond.selects RX11 yX11_tellWave yX11_tellWave) := ⟨List.mem_of_getElem? (i := 114) rfl, good_of_word (by decide +kernel)⟩
theorem dw_415 : lw_in (Cond.instanceMethod yX11_tellWave) := ⟨lw_t (tm_6 (List.mem_of_getElem? (i := 230) rfl)), good_of_word (by decide +kernel)⟩
theorem dw_416 : lw_in (Cond.methodLink RX11 240 yX11_tellWave) := ⟨lw_t (tm_6 (List.mem_of_getElem? (i := 228) rfl)), good_of_word (by decide +kernel)⟩
theorem dw_417 : lw_in (Cond.selects RX11 yX11_goesOn yX11_goesOn) := ⟨List.mem_of_getElem? (i := 113) rfl, good_of_word (by decide +kernel)⟩
theorem dw_418 : lw_in (Cond.instanceMethod yX11_goesOn) := ⟨lw_t (tm_6 (List.mem_of_getElem? (i := 226) rfl)), good_of_word (by decide +kernel)⟩
theorem dw_419 : lw_in (Cond.methodLink RX11 206 yX11_goesOn) := ⟨lw_t (tm_6 (List.mem_of_getElem? (i := 224) rfl)), good_of_word (by decide +kernel)⟩
theorem dw_420 : lw_in (Cond.selects RX11 yX11_fail yX11_fail) := ⟨List.mem_of_getElem? (i := 112) rfl, good_of_word (by decide +kernel)⟩
theorem dw_421 : lw_in (Cond.instanceMethod yX11_fail) := ⟨lw_t (tm_6 (List.mem_of_getElem? (i := 222) rfl)), good_of_word (by decide +kernel)⟩
theorem dw_422 : lw_in (Cond.methodLink RX11 200 yX11_fail) := ⟨lw_t (tm_6 (List.mem_of_getElem? (i := 220) rfl)), good_of_word (by decide +kernel)⟩
theorem dw_423 : lw_in (Cond.selects RX11 yX11_roomFor yX11_roomFor) := ⟨List.mem_of_getElem? (i := 111) rfl, good_of_word (by decide +kernel)⟩
theorem dw_424 : lw_in (Cond.instanceMethod yX11_roomFor) := ⟨lw_t (tm_6 (List.mem_of_getElem? (i := 218) rfl)), good_of_word (by decide +kernel)⟩
theorem dw_425 : lw_in (Cond.methodLink RX11 236 yX11_roomFor) := ⟨lw_t (tm_6 (List.mem_of_getElem? (i := 216) rfl)), good_of_word (by decide +kernel)⟩
set_option maxRecDepth 100000 in
theorem dw_426 : lw_in (Cond.code yX11_roomFor cX11_roomFor 3 none) := ⟨lw_t (tm_6 (List.mem_of_getElem? (i := 219) rfl)), good_of_word (by decide +kernel)⟩
set_option maxRecDepth 100000 in
theorem dw_427 : lw_in (Cond.code yX11_fail cX11_fail 2 none) := ⟨lw_t (tm_6 (List.mem_of_getElem? (i := 223) rfl)), good_of_word (by decide +kernel)⟩
set_option maxRecDepth 100000 in
theorem dw_428 : lw_in (Cond.code yX11_goesOn cX11_goesOn 1 none) := ⟨lw_t (tm_6 (List.mem_of_getElem? (i := 227) rfl)), good_of_word (by decide +kernel)⟩
set_option maxRecDepth 100000 in
theorem dw_429 : lw_in (Cond.code yX11_tellWave cX11_tellWave 5 none) := ⟨lw_t (tm_6 (List.mem_of_getElem? (i := 231) rfl)), good_of_word (by decide +kernel)⟩
theorem dw_430 : lw_in (Cond.selects RX11 yX11_wrong yX11_wrong) := ⟨List.mem_of_getElem? (i := 116) rfl, good_of_word (by decide +kernel)⟩
theorem dw_431 : lw_in (Cond.instanceMethod yX11_wrong) := ⟨lw_t (tm_6 (List.mem_of_getElem? (i := 238) rfl)), good_of_word (by decide +kernel)⟩
theorem dw_432 : lw_in (Cond.methodLink RX11 255 yX11_wrong) := ⟨lw_t (tm_6 (List.mem_of_getElem? (i := 236) rfl)), good_of_word (by decide +kernel)⟩
theorem dw_433 : lw_in (Cond.fieldLink RX11 43 "GuessFerryModel" "oddsOf" "[I") := ⟨lw_t (tm_6 (List.mem_of_getElem? (i := 16) rfl)), good_of_word (by decide +kernel)⟩
set_option maxRecDepth 100000 in
theorem dw_434 : lw_in (Cond.code yX11_bounded cX11_bounded 3 (some .int)) := ⟨lw_t (tm_6 (List.mem_of_getElem? (i := 235) rfl)), good_of_word (by decide +kernel)⟩
set_option maxRecDepth 100000 in
theorem dw_435 : lw_in (Cond.code yX11_wrong cX11_wrong 4 none) := ⟨lw_t (tm_6 (List.mem_of_getElem? (i := 239) rfl)), good_of_word (by decide +kernel)⟩
set_option maxRecDepth 100000 in
theorem dw_436 : lw_in (Cond.code yX11_must cX11_must 2 none) := ⟨lw_t (tm_7 (List.mem_of_getElem? (i := 3) rfl)), good_of_word (by decide +kernel)⟩
set_option maxRecDepth 100000 in
theorem dw_437 : lw_in (Cond.code yX11_tellParty cX11_tellParty 4 none) := ⟨lw_t (tm_7 (List.mem_of_getElem? (i := 7) rfl)), good_of_word (by decide +kernel)⟩
theorem dw_438 : lw_in (Cond.fieldLink RX11 55 "GuessFerryModel" "nerveOf" "[I") := ⟨lw_t (tm_6 (List.mem_of_getElem? (i := 20) rfl)), good_of_word (by decide +kernel)⟩
theorem dw_439 : lw_in (Cond.fieldLink RX11 52 "GuessFerryModel" "heavyOf" "[I") := ⟨lw_t (tm_6 (List.mem_of_getElem? (i := 19) rfl)), good_of_word (by decide +kernel)⟩
theorem dw_440 : lw_in (Cond.fieldLink RX11 46 "GuessFerryModel" "nameOf" "[J") := ⟨lw_t (tm_6 (List.mem_of_getElem? (i := 17) rfl)), good_of_word (by decide +kernel)⟩
set_option maxRecDepth 100000 in
theorem dw_441 : lw_in (Cond.code yX11_tellLaw cX11_tellLaw 4 none) := ⟨lw_t (tm_7 (List.mem_of_getElem? (i := 11) rfl)), good_of_word (by decide +kernel)⟩
theorem dw_442 : lw_in (Cond.selects RX11 yX11_term yX11_term) := ⟨List.mem_of_getElem? (i := 124) rfl, good_of_word (by decide +kernel)⟩
theorem dw_443 : lw_in (Cond.instanceMethod yX11_term) := ⟨lw_t (tm_7 (List.mem_of_getElem? (i := 30) rfl)), good_of_word (by decide +kernel)⟩
theorem dw_444 : lw_in (Cond.methodLink RX11 261 yX11_term) := ⟨lw_t (tm_7 (List.mem_of_getElem? (i := 28) rfl)), good_of_word (by decide +kernel)⟩
theorem dw_445 : lw_in (Cond.selects RX11 yX11_expression yX11_expression) := ⟨List.mem_of_getElem? (i := 120) rfl, good_of_word (by decide +kernel)⟩
theorem dw_446 : lw_in (Cond.instanceMethod yX11_expression) := ⟨lw_t (tm_7 (List.mem_of_getElem? (i := 14) rfl)), good_of_word (by decide +kernel)⟩
theorem dw_447 : lw_in (Cond.methodLink RX11 258 yX11_expression) := ⟨lw_t (tm_7 (List.mem_of_getElem? (i := 12) rfl)), good_of_word (by decide +kernel)⟩
theorem dw_448 : lw_in (Cond.fieldLink RX11 74 "GuessFerryModel" "testMid" "[I") := ⟨lw_t (tm_6 (List.mem_of_getElem? (i := 27) rfl)), good_of_word (by decide +kernel)⟩
theorem dw_449 : lw_in (Cond.fieldLink RX11 71 "GuessFerryModel" "testFrom" "[I") := ⟨lw_t (tm_6 (List.mem_of_getElem? (i := 26) rfl)), good_of_word (by decide +kernel)⟩
theorem dw_450 : lw_in (Cond.fieldLink RX11 67 "GuessFerryModel" "hasTest" "[Z") := ⟨lw_t (tm_6 (List.mem_of_getElem? (i := 25) rfl)), good_of_word (by decide +kernel)⟩
set_option maxRecDepth 100000 in
theorem dw_451 : lw_in (Cond.code yX11_expression cX11_expression 3 none) := ⟨lw_t (tm_7 (List.mem_of_getElem? (i := 15) rfl)), good_of_word (by decide +kernel)⟩
theorem dw_452 : lw_in (Cond.selects RX11 yX11_comesOut yX11_comesOut) := ⟨List.mem_of_getElem? (i := 123) rfl, good_of_word (by decide +kernel)⟩
theorem dw_453 : lw_in (Cond.instanceMethod yX11_comesOut) := ⟨lw_t (tm_7 (List.mem_of_getElem? (i := 26) rfl)), good_of_word (by decide +kernel)⟩
theorem dw_454 : lw_in (Cond.methodLink RX11 273 yX11_comesOut) := ⟨lw_t (tm_7 (List.mem_of_getElem? (i := 24) rfl)), good_of_word (by decide +kernel)⟩
theorem dw_455 : lw_in (Cond.selects RX11 yX11_unit yX11_unit) := ⟨List.mem_of_getElem? (i := 121) rfl, good_of_word (by decide +kernel)⟩
theorem dw_456 : lw_in (Cond.instanceMethod yX11_unit) := ⟨lw_t (tm_7 (List.mem_of_getElem? (i := 18) rfl)), good_of_word (by decide +kernel)⟩
theorem dw_457 : lw_in (Cond.methodLink RX11 270 yX11_unit) := ⟨lw_t (tm_7 (List.mem_of_getElem? (i := 16) rfl)), good_of_word (by decide +kernel)⟩
theorem dw_458 : lw_in (Cond.fieldLink RX11 89 "GuessFerryModel" "waits" "[I") := ⟨lw_t (tm_6 (List.mem_of_getElem? (i := 33) rfl)), good_of_word (by decide +kernel)⟩
theorem dw_459 : lw_in (Cond.fieldLink RX11 264 "GuessFerryModel" "waiting" "I") := ⟨lw_t (tm_6 (List.mem_of_getElem? (i := 34) rfl)), good_of_word (by decide +kernel)⟩
set_option maxRecDepth 100000 in
theorem dw_460 : lw_in (Cond.code yX11_unit cX11_unit 1 none) := ⟨lw_t (tm_7 (List.mem_of_getElem? (i := 19) rfl)), good_of_word (by decide +kernel)⟩
theorem dw_461 : lw_in (Cond.selects RX11 yX11_emit yX11_emit) := ⟨List.mem_of_getElem? (i := 122) rfl, good_of_word (by decide +kernel)⟩
theorem dw_462 : lw_in (Cond.instanceMethod yX11_emit) := ⟨lw_t (tm_7 (List.mem_of_getElem? (i := 22) rfl)), good_of_word (by decide +kernel)⟩
theorem dw_463 : lw_in (Cond.methodLink RX11 267 yX11_emit) := ⟨lw_t (tm_7 (List.mem_of_getElem? (i := 20) rfl)), good_of_word (by decide +kernel)⟩
set_option maxRecDepth 100000 in
theorem dw_464 : lw_in (Cond.code yX11_emit cX11_emit 3 none) := ⟨lw_t (tm_7 (List.mem_of_getElem? (i := 23) rfl)), good_of_word (by decide +kernel)⟩
theorem dw_465 : lw_in (Cond.fieldLink RX11 86 "GuessFerryModel" "codeInt" "[I") := ⟨lw_t (tm_6 (List.mem_of_getElem? (i := 32) rfl)), good_of_word (by decide +kernel)⟩
theorem dw_466 : lw_in (Cond.fieldLink RX11 83 "GuessFerryModel" "code" "[I") := ⟨lw_t (tm_6 (List.mem_of_getElem? (i := 31) rfl)), good_of_word (by decide +kernel)⟩
set_option maxRecDepth 100000 in
theorem dw_467 : lw_in (Cond.code yX11_comesOut cX11_comesOut 3 none) := ⟨lw_t (tm_7 (List.mem_of_getElem? (i := 27) rfl)), good_of_word (by decide +kernel)⟩
set_option maxRecDepth 100000 in
theorem dw_468 : lw_in (Cond.code yX11_term cX11_term 1 none) := ⟨lw_t (tm_7 (List.mem_of_getElem? (i := 31) rfl)), good_of_word (by decide +kernel)⟩
theorem dw_469 : lw_in (Cond.fieldLink RX11 80 "GuessFerryModel" "termTo" "[I") := ⟨lw_t (tm_6 (List.mem_of_getElem? (i := 29) rfl)), good_of_word (by decide +kernel)⟩
theorem dw_470 : lw_in (Cond.fieldLink RX11 77 "GuessFerryModel" "testTo" "[I") := ⟨lw_t (tm_6 (List.mem_of_getElem? (i := 28) rfl)), good_of_word (by decide +kernel)⟩
set_option maxRecDepth 100000 in
theorem dw_471 : lw_in (Cond.code yX11_begins cX11_begins 2 none) := ⟨lw_t (tm_5 (List.mem_of_getElem? (i := 231) rfl)), good_of_word (by decide +kernel)⟩
theorem dw_472 : lw_in (Cond.fieldLink RX11 289 "GuessFerryModel" "lots" "I") := ⟨lw_t (tm_6 (List.mem_of_getElem? (i := 40) rfl)), good_of_word (by decide +kernel)⟩
theorem dw_473 : lw_in (Cond.fieldLink RX11 104 "GuessFerryModel" "sixes" "[I") := ⟨lw_t (tm_6 (List.mem_of_getElem? (i := 41) rfl)), good_of_word (by decide +kernel)⟩
theorem dw_474 : lw_in (Cond.fieldLink RX11 101 "GuessFerryModel" "row" "[I") := ⟨lw_t (tm_6 (List.mem_of_getElem? (i := 39) rfl)), good_of_word (by decide +kernel)⟩
set_option maxRecDepth 100000 in
theorem dw_475 : lw_in (Cond.code yX11_keepsRow cX11_keepsRow 2 none) := ⟨lw_t (tm_5 (List.mem_of_getElem? (i := 235) rfl)), good_of_word (by decide +kernel)⟩
theorem dw_476 : lw_in (Cond.fieldLink RX11 98 "GuessFerryModel" "now" "[I") := ⟨lw_t (tm_6 (List.mem_of_getElem? (i := 38) rfl)), good_of_word (by decide +kernel)⟩
theorem dw_477 : lw_in (Cond.selects RX11 yX11_read yX11_read) := ⟨lw_t (tm_6 (List.mem_of_getElem? (i := 184) rfl)), good_of_word (by decide +kernel)⟩
theorem dw_478 : lw_in (Cond.instanceMethod yX11_read) := ⟨lw_t (tm_6 (List.mem_of_getElem? (i := 183) rfl)), good_of_word (by decide +kernel)⟩
theorem dw_479 : lw_in (Cond.methodLink R_law 27 yX11_read) := ⟨lw_t (tm_6 (List.mem_of_getElem? (i := 182) rfl)), good_of_word (by decide +kernel)⟩
set_option maxRecDepth 100000 in
theorem dw_480 : lw_in (Cond.code yX10_place cX10_place 1 (some .int)) := ⟨lw_t (tm_3 (List.mem_of_getElem? (i := 195) rfl)), good_of_word (by decide +kernel)⟩
theorem dw_481 : lw_in (Cond.selects RX10 yX10_place yX10_place) := ⟨lw_t (tm_3 (List.mem_of_getElem? (i := 194) rfl)), good_of_word (by decide +kernel)⟩
theorem dw_482 : lw_in (Cond.instanceMethod yX10_place) := ⟨lw_t (tm_3 (List.mem_of_getElem? (i := 193) rfl)), good_of_word (by decide +kernel)⟩
theorem dw_483 : lw_in (Cond.methodLink R_law 28 yX10_place) := ⟨lw_t (tm_3 (List.mem_of_getElem? (i := 192) rfl)), good_of_word (by decide +kernel)⟩
set_option maxRecDepth 100000 in
theorem dw_484 : lw_in (Cond.code yX11_place cX11_place 1 (some .int)) := ⟨lw_t (tm_7 (List.mem_of_getElem? (i := 35) rfl)), good_of_word (by decide +kernel)⟩
theorem dw_485 : lw_in (Cond.selects RX11 yX11_place yX11_place) := ⟨lw_t (tm_7 (List.mem_of_getElem? (i := 34) rfl)), good_of_word (by decide +kernel)⟩
theorem dw_486 : lw_in (Cond.instanceMethod yX11_place) := ⟨lw_t (tm_7 (List.mem_of_getElem? (i := 33) rfl)), good_of_word (by decide +kernel)⟩
theorem dw_487 : lw_in (Cond.methodLink R_law 31 yX11_place) := ⟨lw_t (tm_7 (List.mem_of_getElem? (i := 32) rfl)), good_of_word (by decide +kernel)⟩
set_option maxRecDepth 100000 in
theorem dw_488 : lw_in (Cond.code yX10_wave cX10_wave 3 (some .int)) := ⟨lw_t (tm_3 (List.mem_of_getElem? (i := 199) rfl)), good_of_word (by decide +kernel)⟩
theorem dw_489 : lw_in (Cond.selects RX0 yX0_shiftsOf yX0_shiftsOf) := ⟨List.mem_of_getElem? (i := 41) rfl, good_of_word (by decide +kernel)⟩
theorem dw_490 : lw_in (Cond.instanceMethod yX0_shiftsOf) := ⟨lw_t (tm_3 (List.mem_of_getElem? (i := 225) rfl)), good_of_word (by decide +kernel)⟩
theorem dw_491 : lw_in (Cond.selects RX0 yX0_thereNow yX0_thereNow) := ⟨List.mem_of_getElem? (i := 39) rfl, good_of_word (by decide +kernel)⟩
theorem dw_492 : lw_in (Cond.instanceMethod yX0_thereNow) := ⟨lw_t (tm_3 (List.mem_of_getElem? (i := 210) rfl)), good_of_word (by decide +kernel)⟩
theorem dw_493 : lw_in (Cond.selects RX0 yX0_mayBe yX0_mayBe) := ⟨List.mem_of_getElem? (i := 38) rfl, good_of_word (by decide +kernel)⟩
theorem dw_494 : lw_in (Cond.initialized RX0) := ⟨lw_t (tm_1 (List.mem_of_getElem? (i := 13) rfl)), good_of_word (by decide +kernel)⟩
theorem dw_495 : lw_in (Cond.instanceMethod yX0_mayBe) := ⟨lw_t (tm_3 (List.mem_of_getElem? (i := 206) rfl)), good_of_word (by decide +kernel)⟩
theorem dw_496 : lw_in (Cond.selects RX5 yX5_hasWave yX5_hasWave) := ⟨List.mem_of_getElem? (i := 37) rfl, good_of_word (by decide +kernel)⟩
theorem dw_497 : lw_in (Cond.instanceMethod yX5_hasWave) := ⟨lw_t (tm_3 (List.mem_of_getElem? (i := 202) rfl)), good_of_word (by decide +kernel)⟩
theorem dw_498 : lw_in (Cond.fieldLink RX10 54 "GuessFerry" "crossing" "LGuessFerry$Crossing;") := ⟨lw_t (tm_2 (List.mem_of_getElem? (i := 205) rfl)), good_of_word (by decide +kernel)⟩
set_option maxRecDepth 100000 in
theorem dw_499 : lw_in (Cond.code yX5_hasWave cX5_hasWave 2 (some .boolean)) := ⟨lw_t (tm_3 (List.mem_of_getElem? (i := 203) rfl)), good_of_word (by decide +kernel)⟩
