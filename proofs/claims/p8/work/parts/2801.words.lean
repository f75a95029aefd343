theorem dw_250 : lw_in (Cond.selects RX4 yX4_take yX4_take) := ⟨List.mem_of_getElem? (i := 21) (by decide +kernel), good_of_word (by decide +kernel)⟩
theorem dw_251 : lw_in (Cond.instanceMethod yX4_take) := ⟨List.mem_of_getElem? (i := 770) (by decide +kernel), good_of_word (by decide +kernel)⟩
theorem dw_252 : lw_in (Cond.methodLink RX4 81 yX4_take) := ⟨List.mem_of_getElem? (i := 768) (by decide +kernel), good_of_word (by decide +kernel)⟩
theorem dw_253 : lw_in (Cond.selects RX4 yX4_fail yX4_fail) := ⟨List.mem_of_getElem? (i := 20) (by decide +kernel), good_of_word (by decide +kernel)⟩
theorem dw_254 : lw_in (Cond.instanceMethod yX4_fail) := ⟨List.mem_of_getElem? (i := 766) (by decide +kernel), good_of_word (by decide +kernel)⟩
theorem dw_255 : lw_in (Cond.methodLink RX4 70 yX4_fail) := ⟨List.mem_of_getElem? (i := 764) (by decide +kernel), good_of_word (by decide +kernel)⟩
theorem dw_256 : lw_in (Cond.selects RX4 yX4_readWave yX4_readWave) := ⟨List.mem_of_getElem? (i := 19) (by decide +kernel), good_of_word (by decide +kernel)⟩
theorem dw_257 : lw_in (Cond.instanceMethod yX4_readWave) := ⟨List.mem_of_getElem? (i := 762) (by decide +kernel), good_of_word (by decide +kernel)⟩
theorem dw_258 : lw_in (Cond.methodLink RX4 84 yX4_readWave) := ⟨List.mem_of_getElem? (i := 760) (by decide +kernel), good_of_word (by decide +kernel)⟩
set_option maxRecDepth 100000 in
theorem dw_259 : lw_in (Cond.code yX4_readWave cX4_readWave 5 none) := ⟨List.mem_of_getElem? (i := 763) rfl, good_of_word (by decide +kernel)⟩
theorem dw_260 : lw_in (Cond.selects RX4 yX4_failLater yX4_failLater) := ⟨List.mem_of_getElem? (i := 23) (by decide +kernel), good_of_word (by decide +kernel)⟩
theorem dw_261 : lw_in (Cond.instanceMethod yX4_failLater) := ⟨List.mem_of_getElem? (i := 778) (by decide +kernel), good_of_word (by decide +kernel)⟩
theorem dw_262 : lw_in (Cond.methodLink RX4 77 yX4_failLater) := ⟨List.mem_of_getElem? (i := 776) (by decide +kernel), good_of_word (by decide +kernel)⟩
set_option maxRecDepth 100000 in
theorem dw_263 : lw_in (Cond.code yX4_fail cX4_fail 2 none) := ⟨List.mem_of_getElem? (i := 767) rfl, good_of_word (by decide +kernel)⟩
set_option maxRecDepth 100000 in
theorem dw_264 : lw_in (Cond.code yX4_take cX4_take 2 none) := ⟨List.mem_of_getElem? (i := 771) rfl, good_of_word (by decide +kernel)⟩
set_option maxRecDepth 100000 in
theorem dw_265 : lw_in (Cond.code yX4_takeInt cX4_takeInt 3 (some .int)) := ⟨List.mem_of_getElem? (i := 775) rfl, good_of_word (by decide +kernel)⟩
set_option maxRecDepth 100000 in
theorem dw_266 : lw_in (Cond.code yX4_failLater cX4_failLater 3 none) := ⟨List.mem_of_getElem? (i := 779) rfl, good_of_word (by decide +kernel)⟩
set_option maxRecDepth 100000 in
theorem dw_267 : lw_in (Cond.code yX4_readParty cX4_readParty 3 none) := ⟨List.mem_of_getElem? (i := 783) rfl, good_of_word (by decide +kernel)⟩
theorem dw_268 : lw_in (Cond.selects RX4 yX4_isTold yX4_isTold) := ⟨List.mem_of_getElem? (i := 25) (by decide +kernel), good_of_word (by decide +kernel)⟩
theorem dw_269 : lw_in (Cond.instanceMethod yX4_isTold) := ⟨List.mem_of_getElem? (i := 786) (by decide +kernel), good_of_word (by decide +kernel)⟩
theorem dw_270 : lw_in (Cond.methodLink RX4 109 yX4_isTold) := ⟨List.mem_of_getElem? (i := 784) (by decide +kernel), good_of_word (by decide +kernel)⟩
theorem dw_271 : lw_in (Cond.fieldLink RX4 18 "GuessFerry$Reader" "names" "[J") := ⟨List.mem_of_getElem? (i := 434) (by decide +kernel), good_of_word (by decide +kernel)⟩
set_option maxRecDepth 100000 in
theorem dw_272 : lw_in (Cond.code yX4_isTold cX4_isTold 4 (some .boolean)) := ⟨List.mem_of_getElem? (i := 787) rfl, good_of_word (by decide +kernel)⟩
set_option maxRecDepth 100000 in
theorem dw_273 : lw_in (Cond.code yX4_readLaw cX4_readLaw 3 none) := ⟨List.mem_of_getElem? (i := 791) rfl, good_of_word (by decide +kernel)⟩
theorem dw_274 : lw_in (Cond.selects RX4 yX4_readPart yX4_readPart) := ⟨List.mem_of_getElem? (i := 27) (by decide +kernel), good_of_word (by decide +kernel)⟩
theorem dw_275 : lw_in (Cond.instanceMethod yX4_readPart) := ⟨List.mem_of_getElem? (i := 795) (by decide +kernel), good_of_word (by decide +kernel)⟩
theorem dw_276 : lw_in (Cond.methodLink RX4 128 yX4_readPart) := ⟨List.mem_of_getElem? (i := 793) (by decide +kernel), good_of_word (by decide +kernel)⟩
set_option maxRecDepth 100000 in
theorem dw_277 : lw_in (Cond.code yX4_readPart cX4_readPart 2 none) := ⟨List.mem_of_getElem? (i := 796) rfl, good_of_word (by decide +kernel)⟩
theorem dw_278 : lw_in (Cond.selects RX4 yX4_readSum yX4_readSum) := ⟨List.mem_of_getElem? (i := 28) (by decide +kernel), good_of_word (by decide +kernel)⟩
theorem dw_279 : lw_in (Cond.instanceMethod yX4_readSum) := ⟨List.mem_of_getElem? (i := 799) (by decide +kernel), good_of_word (by decide +kernel)⟩
theorem dw_280 : lw_in (Cond.methodLink RX4 131 yX4_readSum) := ⟨List.mem_of_getElem? (i := 797) (by decide +kernel), good_of_word (by decide +kernel)⟩
set_option maxRecDepth 100000 in
theorem dw_281 : lw_in (Cond.code yX4_readSum cX4_readSum 4 none) := ⟨List.mem_of_getElem? (i := 800) rfl, good_of_word (by decide +kernel)⟩
theorem dw_282 : lw_in (Cond.selects RX1 yX1_putSign yX1_putSign) := ⟨List.mem_of_getElem? (i := 31) (by decide +kernel), good_of_word (by decide +kernel)⟩
theorem dw_283 : lw_in (Cond.instanceMethod yX1_putSign) := ⟨List.mem_of_getElem? (i := 813) (by decide +kernel), good_of_word (by decide +kernel)⟩
theorem dw_284 : lw_in (Cond.selects RX4 yX4_readProduct yX4_readProduct) := ⟨List.mem_of_getElem? (i := 29) (by decide +kernel), good_of_word (by decide +kernel)⟩
theorem dw_285 : lw_in (Cond.instanceMethod yX4_readProduct) := ⟨List.mem_of_getElem? (i := 803) (by decide +kernel), good_of_word (by decide +kernel)⟩
theorem dw_286 : lw_in (Cond.methodLink RX4 137 yX4_readProduct) := ⟨List.mem_of_getElem? (i := 801) (by decide +kernel), good_of_word (by decide +kernel)⟩
set_option maxRecDepth 100000 in
theorem dw_287 : lw_in (Cond.code yX4_readUnit cX4_readUnit 4 none) := ⟨List.mem_of_getElem? (i := 808) rfl, good_of_word (by decide +kernel)⟩
theorem dw_288 : lw_in (Cond.selects RX4 yX4_readUnit yX4_readUnit) := ⟨List.mem_of_getElem? (i := 30) (by decide +kernel), good_of_word (by decide +kernel)⟩
theorem dw_289 : lw_in (Cond.instanceMethod yX4_readUnit) := ⟨List.mem_of_getElem? (i := 807) (by decide +kernel), good_of_word (by decide +kernel)⟩
theorem dw_290 : lw_in (Cond.methodLink RX4 143 yX4_readUnit) := ⟨List.mem_of_getElem? (i := 805) (by decide +kernel), good_of_word (by decide +kernel)⟩
set_option maxRecDepth 100000 in
theorem dw_291 : lw_in (Cond.code yX4_readProduct cX4_readProduct 4 none) := ⟨List.mem_of_getElem? (i := 804) rfl, good_of_word (by decide +kernel)⟩
set_option maxRecDepth 100000 in
theorem dw_292 : lw_in (Cond.code yX1_putSign cX1_putSign 2 none) := ⟨List.mem_of_getElem? (i := 814) rfl, good_of_word (by decide +kernel)⟩
set_option maxRecDepth 100000 in
theorem dw_293 : lw_in (Cond.code yX5_addUp cX5_addUp 3 none) := ⟨List.mem_of_getElem? (i := 819) rfl, good_of_word (by decide +kernel)⟩
theorem dw_294 : lw_in (Cond.selects RX5 yX5_oddsAt yX5_oddsAt) := ⟨List.mem_of_getElem? (i := 33) (by decide +kernel), good_of_word (by decide +kernel)⟩
theorem dw_295 : lw_in (Cond.instanceMethod yX5_oddsAt) := ⟨List.mem_of_getElem? (i := 822) (by decide +kernel), good_of_word (by decide +kernel)⟩
theorem dw_296 : lw_in (Cond.methodLink RX5 51 yX5_oddsAt) := ⟨List.mem_of_getElem? (i := 820) (by decide +kernel), good_of_word (by decide +kernel)⟩
theorem dw_297 : lw_in (Cond.fieldLink RX5 18 "GuessFerry$Sound" "likely" "[I") := ⟨List.mem_of_getElem? (i := 287) (by decide +kernel), good_of_word (by decide +kernel)⟩
theorem dw_298 : lw_in (Cond.fieldLink RX5 15 "GuessFerry$Sound" "oddsSums" "[I") := ⟨List.mem_of_getElem? (i := 286) (by decide +kernel), good_of_word (by decide +kernel)⟩
set_option maxRecDepth 100000 in
theorem dw_299 : lw_in (Cond.code yX5_oddsAt cX5_oddsAt 3 (some .int)) := ⟨List.mem_of_getElem? (i := 823) rfl, good_of_word (by decide +kernel)⟩
theorem dw_300 : lw_in (Cond.fieldLink RX5 9 "GuessFerry$Sound" "odds" "[I") := ⟨List.mem_of_getElem? (i := 284) (by decide +kernel), good_of_word (by decide +kernel)⟩
set_option maxRecDepth 100000 in
theorem dw_301 : lw_in (Cond.code yX5_copyFrom cX5_copyFrom 2 none) := ⟨List.mem_of_getElem? (i := 827) rfl, good_of_word (by decide +kernel)⟩
theorem dw_302 : lw_in (Cond.selects RX1 yX1_copyFrom yX1_copyFrom) := ⟨List.mem_of_getElem? (i := 35) (by decide +kernel), good_of_word (by decide +kernel)⟩
theorem dw_303 : lw_in (Cond.instanceMethod yX1_copyFrom) := ⟨List.mem_of_getElem? (i := 833) (by decide +kernel), good_of_word (by decide +kernel)⟩
theorem dw_304 : lw_in (Cond.fieldLink RX5 24 "GuessFerry$Sound" "nerve" "[I") := ⟨List.mem_of_getElem? (i := 293) (by decide +kernel), good_of_word (by decide +kernel)⟩
theorem dw_305 : lw_in (Cond.fieldLink RX5 21 "GuessFerry$Sound" "heavy" "[I") := ⟨List.mem_of_getElem? (i := 289) (by decide +kernel), good_of_word (by decide +kernel)⟩
theorem dw_306 : lw_in (Cond.initialized "java/lang/System") := ⟨List.mem_of_getElem? (i := 188) (by decide +kernel), good_of_word (by decide +kernel)⟩
theorem dw_307 : lw_in (Cond.static arraycopyName) := ⟨List.mem_of_getElem? (i := 829) (by decide +kernel), good_of_word (by decide +kernel)⟩
theorem dw_308 : lw_in (Cond.native arraycopyName) := ⟨List.mem_of_getElem? (i := 830) (by decide +kernel), good_of_word (by decide +kernel)⟩
theorem dw_309 : lw_in (Cond.methodLink RX5 55 arraycopyName) := ⟨List.mem_of_getElem? (i := 828) (by decide +kernel), good_of_word (by decide +kernel)⟩
set_option maxRecDepth 100000 in
theorem dw_310 : lw_in (Cond.code yX1_copyFrom cX1_copyFrom 2 none) := ⟨List.mem_of_getElem? (i := 834) rfl, good_of_word (by decide +kernel)⟩
theorem dw_311 : lw_in (Cond.methodLink RX1 51 arraycopyName) := ⟨List.mem_of_getElem? (i := 835) (by decide +kernel), good_of_word (by decide +kernel)⟩
set_option maxRecDepth 100000 in
theorem dw_312 : lw_in (Cond.code yX6_startOver cX6_startOver 1 none) := ⟨List.mem_of_getElem? (i := 603) rfl, good_of_word (by decide +kernel)⟩
theorem dw_313 : lw_in (Cond.initialized RJ7) := ⟨List.mem_of_getElem? (i := 184) (by decide +kernel), good_of_word (by decide +kernel)⟩
theorem dw_314 : lw_in (Cond.static yJ7_fill_53178) := ⟨List.mem_of_getElem? (i := 605) (by decide +kernel), good_of_word (by decide +kernel)⟩
theorem dw_315 : lw_in (Cond.methodLink RX6 27 yJ7_fill_53178) := ⟨List.mem_of_getElem? (i := 604) (by decide +kernel), good_of_word (by decide +kernel)⟩
theorem dw_316 : lw_in (Cond.fieldLink RX6 37 "GuessFerry$Standing" "paid" "I") := ⟨List.mem_of_getElem? (i := 485) (by decide +kernel), good_of_word (by decide +kernel)⟩
theorem dw_317 : lw_in (Cond.fieldLink RX6 33 "GuessFerry$Standing" "year" "I") := ⟨List.mem_of_getElem? (i := 482) (by decide +kernel), good_of_word (by decide +kernel)⟩
theorem dw_318 : lw_in (Cond.fieldLink RX6 24 "GuessFerry$Standing" "goes" "[I") := ⟨List.mem_of_getElem? (i := 478) (by decide +kernel), good_of_word (by decide +kernel)⟩
theorem dw_319 : lw_in (Cond.fieldLink RX6 21 "GuessFerry$Standing" "status" "[I") := ⟨List.mem_of_getElem? (i := 475) (by decide +kernel), good_of_word (by decide +kernel)⟩
theorem dw_320 : lw_in (Cond.fieldLink RX6 18 "GuessFerry$Standing" "shifted" "[I") := ⟨List.mem_of_getElem? (i := 472) (by decide +kernel), good_of_word (by decide +kernel)⟩
theorem dw_321 : lw_in (Cond.fieldLink RX6 15 "GuessFerry$Standing" "buoys" "[I") := ⟨List.mem_of_getElem? (i := 468) (by decide +kernel), good_of_word (by decide +kernel)⟩
theorem dw_322 : lw_in (Cond.fieldLink RX6 9 "GuessFerry$Standing" "found" "[I") := ⟨List.mem_of_getElem? (i := 464) (by decide +kernel), good_of_word (by decide +kernel)⟩
set_option maxRecDepth 100000 in
theorem dw_323 : lw_in (Cond.code yJ7_fill_53178 cJ7_fill_53178 4 none) := ⟨List.mem_of_getElem? (i := 606) rfl, good_of_word (by decide +kernel)⟩
set_option maxRecDepth 100000 in
theorem dw_324 : lw_in (Cond.code yX3_forgetAll cX3_forgetAll 2 none) := ⟨List.mem_of_getElem? (i := 839) rfl, good_of_word (by decide +kernel)⟩
theorem dw_325 : lw_in (Cond.fieldLink RX3 20 "GuessFerry$Past" "isHeld" "[Z") := ⟨List.mem_of_getElem? (i := 514) (by decide +kernel), good_of_word (by decide +kernel)⟩
theorem dw_326 : lw_in (Cond.fieldLink RX3 25 "GuessFerry$Past" "size" "I") := ⟨List.mem_of_getElem? (i := 516) (by decide +kernel), good_of_word (by decide +kernel)⟩
theorem dw_327 : lw_in (Cond.selects RX10 yX10_read yX10_read) := ⟨List.mem_of_getElem? (i := 653) (by decide +kernel), good_of_word (by decide +kernel)⟩
theorem dw_328 : lw_in (Cond.instanceMethod yX10_read) := ⟨List.mem_of_getElem? (i := 652) (by decide +kernel), good_of_word (by decide +kernel)⟩
theorem dw_329 : lw_in (Cond.methodLink R_law 23 yX10_read) := ⟨List.mem_of_getElem? (i := 651) (by decide +kernel), good_of_word (by decide +kernel)⟩
set_option maxRecDepth 100000 in
theorem dw_330 : lw_in (Cond.code yX11_read cX11_read 2 (some .int)) := ⟨List.mem_of_getElem? (i := 1553) rfl, good_of_word (by decide +kernel)⟩
theorem dw_331 : lw_in (Cond.selects RX11 yX11_keepsRow yX11_keepsRow) := ⟨List.mem_of_getElem? (i := 103) (by decide +kernel), good_of_word (by decide +kernel)⟩
theorem dw_332 : lw_in (Cond.instanceMethod yX11_keepsRow) := ⟨List.mem_of_getElem? (i := 1362) (by decide +kernel), good_of_word (by decide +kernel)⟩
theorem dw_333 : lw_in (Cond.methodLink RX11 145 yX11_keepsRow) := ⟨List.mem_of_getElem? (i := 1360) (by decide +kernel), good_of_word (by decide +kernel)⟩
theorem dw_334 : lw_in (Cond.selects RX11 yX11_begins yX11_begins) := ⟨List.mem_of_getElem? (i := 102) (by decide +kernel), good_of_word (by decide +kernel)⟩
theorem dw_335 : lw_in (Cond.instanceMethod yX11_begins) := ⟨List.mem_of_getElem? (i := 1358) (by decide +kernel), good_of_word (by decide +kernel)⟩
theorem dw_336 : lw_in (Cond.methodLink RX11 142 yX11_begins) := ⟨List.mem_of_getElem? (i := 1356) (by decide +kernel), good_of_word (by decide +kernel)⟩
theorem dw_337 : lw_in (Cond.selects RX11 yX11_tellOne yX11_tellOne) := ⟨List.mem_of_getElem? (i := 110) (by decide +kernel), good_of_word (by decide +kernel)⟩
theorem dw_338 : lw_in (Cond.instanceMethod yX11_tellOne) := ⟨List.mem_of_getElem? (i := 1582) (by decide +kernel), good_of_word (by decide +kernel)⟩
theorem dw_339 : lw_in (Cond.methodLink RX11 227 yX11_tellOne) := ⟨List.mem_of_getElem? (i := 1580) (by decide +kernel), good_of_word (by decide +kernel)⟩
theorem dw_340 : lw_in (Cond.selects RX11 yX11_is yX11_is) := ⟨List.mem_of_getElem? (i := 109) (by decide +kernel), good_of_word (by decide +kernel)⟩
theorem dw_341 : lw_in (Cond.instanceMethod yX11_is) := ⟨List.mem_of_getElem? (i := 1578) (by decide +kernel), good_of_word (by decide +kernel)⟩
theorem dw_342 : lw_in (Cond.methodLink RX11 203 yX11_is) := ⟨List.mem_of_getElem? (i := 1576) (by decide +kernel), good_of_word (by decide +kernel)⟩
theorem dw_343 : lw_in (Cond.selects RX11 yX11_plain yX11_plain) := ⟨List.mem_of_getElem? (i := 101) (by decide +kernel), good_of_word (by decide +kernel)⟩
theorem dw_344 : lw_in (Cond.instanceMethod yX11_plain) := ⟨List.mem_of_getElem? (i := 1347) (by decide +kernel), good_of_word (by decide +kernel)⟩
theorem dw_345 : lw_in (Cond.methodLink RX11 134 yX11_plain) := ⟨List.mem_of_getElem? (i := 1345) (by decide +kernel), good_of_word (by decide +kernel)⟩
theorem dw_346 : lw_in (Cond.selects RX11 yX11_cut yX11_cut) := ⟨List.mem_of_getElem? (i := 105) (by decide +kernel), good_of_word (by decide +kernel)⟩
theorem dw_347 : lw_in (Cond.instanceMethod yX11_cut) := ⟨List.mem_of_getElem? (i := 1556) (by decide +kernel), good_of_word (by decide +kernel)⟩
theorem dw_348 : lw_in (Cond.methodLink RX11 209 yX11_cut) := ⟨List.mem_of_getElem? (i := 1554) (by decide +kernel), good_of_word (by decide +kernel)⟩
theorem dw_349 : lw_in (Cond.fieldLink RX11 128 "GuessFerryModel" "isHeld" "[Z") := ⟨List.mem_of_getElem? (i := 1419) (by decide +kernel), good_of_word (by decide +kernel)⟩
theorem dw_350 : lw_in (Cond.fieldLink RX11 233 "GuessFerryModel" "tolds" "I") := ⟨List.mem_of_getElem? (i := 1414) (by decide +kernel), good_of_word (by decide +kernel)⟩
theorem dw_351 : lw_in (Cond.fieldLink RX11 230 "GuessFerryModel" "undos" "I") := ⟨List.mem_of_getElem? (i := 1411) (by decide +kernel), good_of_word (by decide +kernel)⟩
theorem dw_352 : lw_in (Cond.fieldLink RX11 37 "GuessFerryModel" "place" "I") := ⟨List.mem_of_getElem? (i := 1380) (by decide +kernel), good_of_word (by decide +kernel)⟩
theorem dw_353 : lw_in (Cond.fieldLink RX11 197 "GuessFerryModel" "worstPlace" "I") := ⟨List.mem_of_getElem? (i := 1379) (by decide +kernel), good_of_word (by decide +kernel)⟩
theorem dw_354 : lw_in (Cond.fieldLink RX11 191 "GuessFerryModel" "faultPlace" "I") := ⟨List.mem_of_getElem? (i := 1377) (by decide +kernel), good_of_word (by decide +kernel)⟩
theorem dw_355 : lw_in (Cond.fieldLink RX11 224 "GuessFerryModel" "codes" "I") := ⟨List.mem_of_getElem? (i := 1398) (by decide +kernel), good_of_word (by decide +kernel)⟩
theorem dw_356 : lw_in (Cond.fieldLink RX11 221 "GuessFerryModel" "branches" "I") := ⟨List.mem_of_getElem? (i := 1392) (by decide +kernel), good_of_word (by decide +kernel)⟩
theorem dw_357 : lw_in (Cond.fieldLink RX11 218 "GuessFerryModel" "side" "I") := ⟨List.mem_of_getElem? (i := 1382) (by decide +kernel), good_of_word (by decide +kernel)⟩
theorem dw_358 : lw_in (Cond.fieldLink RX11 215 "GuessFerryModel" "live" "I") := ⟨List.mem_of_getElem? (i := 1381) (by decide +kernel), good_of_word (by decide +kernel)⟩
theorem dw_359 : lw_in (Cond.fieldLink RX11 194 "GuessFerryModel" "worst" "I") := ⟨List.mem_of_getElem? (i := 1378) (by decide +kernel), good_of_word (by decide +kernel)⟩
theorem dw_360 : lw_in (Cond.fieldLink RX11 185 "GuessFerryModel" "fault" "I") := ⟨List.mem_of_getElem? (i := 1376) (by decide +kernel), good_of_word (by decide +kernel)⟩
theorem dw_361 : lw_in (Cond.fieldLink RX11 212 "GuessFerryModel" "open" "I") := ⟨List.mem_of_getElem? (i := 1375) (by decide +kernel), good_of_word (by decide +kernel)⟩
theorem dw_362 : lw_in (Cond.fieldLink RX11 188 "GuessFerryModel" "t" "I") := ⟨List.mem_of_getElem? (i := 1374) (by decide +kernel), good_of_word (by decide +kernel)⟩
theorem dw_363 : lw_in (Cond.fieldLink RX11 17 "GuessFerryModel" "text" "[B") := ⟨List.mem_of_getElem? (i := 1366) (by decide +kernel), good_of_word (by decide +kernel)⟩
theorem dw_364 : lw_in (Cond.fieldLink RX11 154 "GuessFerryModel" "size" "I") := ⟨List.mem_of_getElem? (i := 1367) (by decide +kernel), good_of_word (by decide +kernel)⟩
set_option maxRecDepth 100000 in
theorem dw_365 : lw_in (Cond.code yX11_cut cX11_cut 8 none) := ⟨List.mem_of_getElem? (i := 1557) rfl, good_of_word (by decide +kernel)⟩
theorem dw_366 : lw_in (Cond.selects RX11 yX11_sign yX11_sign) := ⟨List.mem_of_getElem? (i := 108) (by decide +kernel), good_of_word (by decide +kernel)⟩
theorem dw_367 : lw_in (Cond.instanceMethod yX11_sign) := ⟨List.mem_of_getElem? (i := 1574) (by decide +kernel), good_of_word (by decide +kernel)⟩
theorem dw_368 : lw_in (Cond.methodLink RX11 181 yX11_sign) := ⟨List.mem_of_getElem? (i := 1572) (by decide +kernel), good_of_word (by decide +kernel)⟩
theorem dw_369 : lw_in (Cond.static yX11_isDigit) := ⟨List.mem_of_getElem? (i := 1570) (by decide +kernel), good_of_word (by decide +kernel)⟩
theorem dw_370 : lw_in (Cond.methodLink RX11 178 yX11_isDigit) := ⟨List.mem_of_getElem? (i := 1569) (by decide +kernel), good_of_word (by decide +kernel)⟩
theorem dw_371 : lw_in (Cond.static yX11_appends) := ⟨List.mem_of_getElem? (i := 1353) (by decide +kernel), good_of_word (by decide +kernel)⟩
theorem dw_372 : lw_in (Cond.methodLink RX11 159 yX11_appends) := ⟨List.mem_of_getElem? (i := 1352) (by decide +kernel), good_of_word (by decide +kernel)⟩
theorem dw_373 : lw_in (Cond.static yX11_isLetter) := ⟨List.mem_of_getElem? (i := 1567) (by decide +kernel), good_of_word (by decide +kernel)⟩
theorem dw_374 : lw_in (Cond.methodLink RX11 174 yX11_isLetter) := ⟨List.mem_of_getElem? (i := 1566) (by decide +kernel), good_of_word (by decide +kernel)⟩
theorem dw_375 : lw_in (Cond.selects RX11 yX11_token yX11_token) := ⟨List.mem_of_getElem? (i := 107) (by decide +kernel), good_of_word (by decide +kernel)⟩
theorem dw_376 : lw_in (Cond.instanceMethod yX11_token) := ⟨List.mem_of_getElem? (i := 1564) (by decide +kernel), good_of_word (by decide +kernel)⟩
theorem dw_377 : lw_in (Cond.methodLink RX11 170 yX11_token) := ⟨List.mem_of_getElem? (i := 1562) (by decide +kernel), good_of_word (by decide +kernel)⟩
theorem dw_378 : lw_in (Cond.selects RX11 yX11_byteAt yX11_byteAt) := ⟨List.mem_of_getElem? (i := 106) (by decide +kernel), good_of_word (by decide +kernel)⟩
theorem dw_379 : lw_in (Cond.instanceMethod yX11_byteAt) := ⟨List.mem_of_getElem? (i := 1560) (by decide +kernel), good_of_word (by decide +kernel)⟩
theorem dw_380 : lw_in (Cond.methodLink RX11 166 yX11_byteAt) := ⟨List.mem_of_getElem? (i := 1558) (by decide +kernel), good_of_word (by decide +kernel)⟩
theorem dw_381 : lw_in (Cond.fieldLink RX11 34 "GuessFerryModel" "keys" "[J") := ⟨List.mem_of_getElem? (i := 1372) (by decide +kernel), good_of_word (by decide +kernel)⟩
theorem dw_382 : lw_in (Cond.fieldLink RX11 163 "GuessFerryModel" "tokens" "I") := ⟨List.mem_of_getElem? (i := 1373) (by decide +kernel), good_of_word (by decide +kernel)⟩
set_option maxRecDepth 100000 in
theorem dw_383 : lw_in (Cond.code yX11_byteAt cX11_byteAt 2 (some .int)) := ⟨List.mem_of_getElem? (i := 1561) rfl, good_of_word (by decide +kernel)⟩
set_option maxRecDepth 100000 in
theorem dw_384 : lw_in (Cond.code yX11_token cX11_token 6 none) := ⟨List.mem_of_getElem? (i := 1565) rfl, good_of_word (by decide +kernel)⟩
theorem dw_385 : lw_in (Cond.fieldLink RX11 30 "GuessFerryModel" "tName" "[J") := ⟨List.mem_of_getElem? (i := 1371) (by decide +kernel), good_of_word (by decide +kernel)⟩
theorem dw_386 : lw_in (Cond.fieldLink RX11 27 "GuessFerryModel" "tValue" "[I") := ⟨List.mem_of_getElem? (i := 1370) (by decide +kernel), good_of_word (by decide +kernel)⟩
theorem dw_387 : lw_in (Cond.fieldLink RX11 24 "GuessFerryModel" "tPlace" "[I") := ⟨List.mem_of_getElem? (i := 1369) (by decide +kernel), good_of_word (by decide +kernel)⟩
theorem dw_388 : lw_in (Cond.fieldLink RX11 20 "GuessFerryModel" "tKind" "[I") := ⟨List.mem_of_getElem? (i := 1368) (by decide +kernel), good_of_word (by decide +kernel)⟩
set_option maxRecDepth 100000 in
theorem dw_389 : lw_in (Cond.code yX11_isLetter cX11_isLetter 1 (some .boolean)) := ⟨List.mem_of_getElem? (i := 1568) rfl, good_of_word (by decide +kernel)⟩
set_option maxRecDepth 100000 in
theorem dw_390 : lw_in (Cond.code yX11_appends cX11_appends 3 (some .long)) := ⟨List.mem_of_getElem? (i := 1354) rfl, good_of_word (by decide +kernel)⟩
theorem dw_391 : lw_in (Cond.constantLong RX11 157 (27)) := ⟨List.mem_of_getElem? (i := 1355) (by decide +kernel), good_of_word (by decide +kernel)⟩
set_option maxRecDepth 100000 in
theorem dw_392 : lw_in (Cond.code yX11_isDigit cX11_isDigit 1 (some .boolean)) := ⟨List.mem_of_getElem? (i := 1571) rfl, good_of_word (by decide +kernel)⟩
set_option maxRecDepth 100000 in
theorem dw_393 : lw_in (Cond.code yX11_sign cX11_sign 5 (some .int)) := ⟨List.mem_of_getElem? (i := 1575) rfl, good_of_word (by decide +kernel)⟩
set_option maxRecDepth 100000 in
theorem dw_394 : lw_in (Cond.code yX11_plain cX11_plain 3 none) := ⟨List.mem_of_getElem? (i := 1348) rfl, good_of_word (by decide +kernel)⟩
theorem dw_395 : lw_in (Cond.fieldLink RX11 64 "GuessFerryModel" "lawLast" "[I") := ⟨List.mem_of_getElem? (i := 1391) (by decide +kernel), good_of_word (by decide +kernel)⟩
theorem dw_396 : lw_in (Cond.fieldLink RX11 61 "GuessFerryModel" "lawFirst" "[I") := ⟨List.mem_of_getElem? (i := 1390) (by decide +kernel), good_of_word (by decide +kernel)⟩
theorem dw_397 : lw_in (Cond.fieldLink RX11 58 "GuessFerryModel" "seed" "[I") := ⟨List.mem_of_getElem? (i := 1389) (by decide +kernel), good_of_word (by decide +kernel)⟩
theorem dw_398 : lw_in (Cond.fieldLink RX11 49 "GuessFerryModel" "parties" "[I") := ⟨List.mem_of_getElem? (i := 1386) (by decide +kernel), good_of_word (by decide +kernel)⟩
theorem dw_399 : lw_in (Cond.fieldLink RX11 40 "GuessFerryModel" "waves" "[I") := ⟨List.mem_of_getElem? (i := 1383) (by decide +kernel), good_of_word (by decide +kernel)⟩
set_option maxRecDepth 100000 in
theorem dw_400 : lw_in (Cond.code yX11_is cX11_is 2 (some .boolean)) := ⟨List.mem_of_getElem? (i := 1579) rfl, good_of_word (by decide +kernel)⟩
set_option maxRecDepth 100000 in
theorem dw_401 : lw_in (Cond.code yX11_tellOne cX11_tellOne 2 none) := ⟨List.mem_of_getElem? (i := 1583) rfl, good_of_word (by decide +kernel)⟩
theorem dw_402 : lw_in (Cond.selects RX11 yX11_tellLaw yX11_tellLaw) := ⟨List.mem_of_getElem? (i := 119) (by decide +kernel), good_of_word (by decide +kernel)⟩
theorem dw_403 : lw_in (Cond.instanceMethod yX11_tellLaw) := ⟨List.mem_of_getElem? (i := 1618) (by decide +kernel), good_of_word (by decide +kernel)⟩
theorem dw_404 : lw_in (Cond.methodLink RX11 252 yX11_tellLaw) := ⟨List.mem_of_getElem? (i := 1616) (by decide +kernel), good_of_word (by decide +kernel)⟩
theorem dw_405 : lw_in (Cond.selects RX11 yX11_tellParty yX11_tellParty) := ⟨List.mem_of_getElem? (i := 118) (by decide +kernel), good_of_word (by decide +kernel)⟩
theorem dw_406 : lw_in (Cond.instanceMethod yX11_tellParty) := ⟨List.mem_of_getElem? (i := 1614) (by decide +kernel), good_of_word (by decide +kernel)⟩
theorem dw_407 : lw_in (Cond.methodLink RX11 243 yX11_tellParty) := ⟨List.mem_of_getElem? (i := 1612) (by decide +kernel), good_of_word (by decide +kernel)⟩
theorem dw_408 : lw_in (Cond.selects RX11 yX11_must yX11_must) := ⟨List.mem_of_getElem? (i := 117) (by decide +kernel), good_of_word (by decide +kernel)⟩
theorem dw_409 : lw_in (Cond.instanceMethod yX11_must) := ⟨List.mem_of_getElem? (i := 1610) (by decide +kernel), good_of_word (by decide +kernel)⟩
theorem dw_410 : lw_in (Cond.methodLink RX11 249 yX11_must) := ⟨List.mem_of_getElem? (i := 1608) (by decide +kernel), good_of_word (by decide +kernel)⟩
theorem dw_411 : lw_in (Cond.selects RX11 yX11_bounded yX11_bounded) := ⟨List.mem_of_getElem? (i := 115) (by decide +kernel), good_of_word (by decide +kernel)⟩
theorem dw_412 : lw_in (Cond.instanceMethod yX11_bounded) := ⟨List.mem_of_getElem? (i := 1602) (by decide +kernel), good_of_word (by decide +kernel)⟩
theorem dw_413 : lw_in (Cond.methodLink RX11 246 yX11_bounded) := ⟨List.mem_of_getElem? (i := 1600) (by decide +kernel), good_of_word (by decide +kernel)⟩
theorem dw_414 : lw_in (Cond.selects RX11 yX11_tellWave yX11_tellWave) := ⟨List.mem_of_getElem? (i := 114) (by decide +kernel), good_of_word (by decide +kernel)⟩
theorem dw_415 : lw_in (Cond.instanceMethod yX11_tellWave) := ⟨List.mem_of_getElem? (i := 1598) (by decide +kernel), good_of_word (by decide +kernel)⟩
theorem dw_416 : lw_in (Cond.methodLink RX11 240 yX11_tellWave) := ⟨List.mem_of_getElem? (i := 1596) (by decide +kernel), good_of_word (by decide +kernel)⟩
theorem dw_417 : lw_in (Cond.selects RX11 yX11_goesOn yX11_goesOn) := ⟨List.mem_of_getElem? (i := 113) (by decide +kernel), good_of_word (by decide +kernel)⟩
theorem dw_418 : lw_in (Cond.instanceMethod yX11_goesOn) := ⟨List.mem_of_getElem? (i := 1594) (by decide +kernel), good_of_word (by decide +kernel)⟩
theorem dw_419 : lw_in (Cond.methodLink RX11 206 yX11_goesOn) := ⟨List.mem_of_getElem? (i := 1592) (by decide +kernel), good_of_word (by decide +kernel)⟩
theorem dw_420 : lw_in (Cond.selects RX11 yX11_fail yX11_fail) := ⟨List.mem_of_getElem? (i := 112) (by decide +kernel), good_of_word (by decide +kernel)⟩
theorem dw_421 : lw_in (Cond.instanceMethod yX11_fail) := ⟨List.mem_of_getElem? (i := 1590) (by decide +kernel), good_of_word (by decide +kernel)⟩
theorem dw_422 : lw_in (Cond.methodLink RX11 200 yX11_fail) := ⟨List.mem_of_getElem? (i := 1588) (by decide +kernel), good_of_word (by decide +kernel)⟩
theorem dw_423 : lw_in (Cond.selects RX11 yX11_roomFor yX11_roomFor) := ⟨List.mem_of_getElem? (i := 111) (by decide +kernel), good_of_word (by decide +kernel)⟩
theorem dw_424 : lw_in (Cond.instanceMethod yX11_roomFor) := ⟨List.mem_of_getElem? (i := 1586) (by decide +kernel), good_of_word (by decide +kernel)⟩
theorem dw_425 : lw_in (Cond.methodLink RX11 236 yX11_roomFor) := ⟨List.mem_of_getElem? (i := 1584) (by decide +kernel), good_of_word (by decide +kernel)⟩
set_option maxRecDepth 100000 in
theorem dw_426 : lw_in (Cond.code yX11_roomFor cX11_roomFor 3 none) := ⟨List.mem_of_getElem? (i := 1587) rfl, good_of_word (by decide +kernel)⟩
set_option maxRecDepth 100000 in
theorem dw_427 : lw_in (Cond.code yX11_fail cX11_fail 2 none) := ⟨List.mem_of_getElem? (i := 1591) rfl, good_of_word (by decide +kernel)⟩
set_option maxRecDepth 100000 in
theorem dw_428 : lw_in (Cond.code yX11_goesOn cX11_goesOn 1 none) := ⟨List.mem_of_getElem? (i := 1595) rfl, good_of_word (by decide +kernel)⟩
set_option maxRecDepth 100000 in
theorem dw_429 : lw_in (Cond.code yX11_tellWave cX11_tellWave 5 none) := ⟨List.mem_of_getElem? (i := 1599) rfl, good_of_word (by decide +kernel)⟩
theorem dw_430 : lw_in (Cond.selects RX11 yX11_wrong yX11_wrong) := ⟨List.mem_of_getElem? (i := 116) (by decide +kernel), good_of_word (by decide +kernel)⟩
theorem dw_431 : lw_in (Cond.instanceMethod yX11_wrong) := ⟨List.mem_of_getElem? (i := 1606) (by decide +kernel), good_of_word (by decide +kernel)⟩
theorem dw_432 : lw_in (Cond.methodLink RX11 255 yX11_wrong) := ⟨List.mem_of_getElem? (i := 1604) (by decide +kernel), good_of_word (by decide +kernel)⟩
theorem dw_433 : lw_in (Cond.fieldLink RX11 43 "GuessFerryModel" "oddsOf" "[I") := ⟨List.mem_of_getElem? (i := 1384) (by decide +kernel), good_of_word (by decide +kernel)⟩
set_option maxRecDepth 100000 in
theorem dw_434 : lw_in (Cond.code yX11_bounded cX11_bounded 3 (some .int)) := ⟨List.mem_of_getElem? (i := 1603) rfl, good_of_word (by decide +kernel)⟩
set_option maxRecDepth 100000 in
theorem dw_435 : lw_in (Cond.code yX11_wrong cX11_wrong 4 none) := ⟨List.mem_of_getElem? (i := 1607) rfl, good_of_word (by decide +kernel)⟩
set_option maxRecDepth 100000 in
theorem dw_436 : lw_in (Cond.code yX11_must cX11_must 2 none) := ⟨List.mem_of_getElem? (i := 1611) rfl, good_of_word (by decide +kernel)⟩
set_option maxRecDepth 100000 in
theorem dw_437 : lw_in (Cond.code yX11_tellParty cX11_tellParty 4 none) := ⟨List.mem_of_getElem? (i := 1615) rfl, good_of_word (by decide +kernel)⟩
theorem dw_438 : lw_in (Cond.fieldLink RX11 55 "GuessFerryModel" "nerveOf" "[I") := ⟨List.mem_of_getElem? (i := 1388) (by decide +kernel), good_of_word (by decide +kernel)⟩
theorem dw_439 : lw_in (Cond.fieldLink RX11 52 "GuessFerryModel" "heavyOf" "[I") := ⟨List.mem_of_getElem? (i := 1387) (by decide +kernel), good_of_word (by decide +kernel)⟩
theorem dw_440 : lw_in (Cond.fieldLink RX11 46 "GuessFerryModel" "nameOf" "[J") := ⟨List.mem_of_getElem? (i := 1385) (by decide +kernel), good_of_word (by decide +kernel)⟩
set_option maxRecDepth 100000 in
theorem dw_441 : lw_in (Cond.code yX11_tellLaw cX11_tellLaw 4 none) := ⟨List.mem_of_getElem? (i := 1619) rfl, good_of_word (by decide +kernel)⟩
theorem dw_442 : lw_in (Cond.selects RX11 yX11_term yX11_term) := ⟨List.mem_of_getElem? (i := 124) (by decide +kernel), good_of_word (by decide +kernel)⟩
theorem dw_443 : lw_in (Cond.instanceMethod yX11_term) := ⟨List.mem_of_getElem? (i := 1638) (by decide +kernel), good_of_word (by decide +kernel)⟩
theorem dw_444 : lw_in (Cond.methodLink RX11 261 yX11_term) := ⟨List.mem_of_getElem? (i := 1636) (by decide +kernel), good_of_word (by decide +kernel)⟩
theorem dw_445 : lw_in (Cond.selects RX11 yX11_expression yX11_expression) := ⟨List.mem_of_getElem? (i := 120) (by decide +kernel), good_of_word (by decide +kernel)⟩
theorem dw_446 : lw_in (Cond.instanceMethod yX11_expression) := ⟨List.mem_of_getElem? (i := 1622) (by decide +kernel), good_of_word (by decide +kernel)⟩
theorem dw_447 : lw_in (Cond.methodLink RX11 258 yX11_expression) := ⟨List.mem_of_getElem? (i := 1620) (by decide +kernel), good_of_word (by decide +kernel)⟩
theorem dw_448 : lw_in (Cond.fieldLink RX11 74 "GuessFerryModel" "testMid" "[I") := ⟨List.mem_of_getElem? (i := 1395) (by decide +kernel), good_of_word (by decide +kernel)⟩
theorem dw_449 : lw_in (Cond.fieldLink RX11 71 "GuessFerryModel" "testFrom" "[I") := ⟨List.mem_of_getElem? (i := 1394) (by decide +kernel), good_of_word (by decide +kernel)⟩
theorem dw_450 : lw_in (Cond.fieldLink RX11 67 "GuessFerryModel" "hasTest" "[Z") := ⟨List.mem_of_getElem? (i := 1393) (by decide +kernel), good_of_word (by decide +kernel)⟩
set_option maxRecDepth 100000 in
theorem dw_451 : lw_in (Cond.code yX11_expression cX11_expression 3 none) := ⟨List.mem_of_getElem? (i := 1623) rfl, good_of_word (by decide +kernel)⟩
theorem dw_452 : lw_in (Cond.selects RX11 yX11_comesOut yX11_comesOut) := ⟨List.mem_of_getElem? (i := 123) (by decide +kernel), good_of_word (by decide +kernel)⟩
theorem dw_453 : lw_in (Cond.instanceMethod yX11_comesOut) := ⟨List.mem_of_getElem? (i := 1634) (by decide +kernel), good_of_word (by decide +kernel)⟩
theorem dw_454 : lw_in (Cond.methodLink RX11 273 yX11_comesOut) := ⟨List.mem_of_getElem? (i := 1632) (by decide +kernel), good_of_word (by decide +kernel)⟩
theorem dw_455 : lw_in (Cond.selects RX11 yX11_unit yX11_unit) := ⟨List.mem_of_getElem? (i := 121) (by decide +kernel), good_of_word (by decide +kernel)⟩
theorem dw_456 : lw_in (Cond.instanceMethod yX11_unit) := ⟨List.mem_of_getElem? (i := 1626) (by decide +kernel), good_of_word (by decide +kernel)⟩
theorem dw_457 : lw_in (Cond.methodLink RX11 270 yX11_unit) := ⟨List.mem_of_getElem? (i := 1624) (by decide +kernel), good_of_word (by decide +kernel)⟩
theorem dw_458 : lw_in (Cond.fieldLink RX11 89 "GuessFerryModel" "waits" "[I") := ⟨List.mem_of_getElem? (i := 1401) (by decide +kernel), good_of_word (by decide +kernel)⟩
theorem dw_459 : lw_in (Cond.fieldLink RX11 264 "GuessFerryModel" "waiting" "I") := ⟨List.mem_of_getElem? (i := 1402) (by decide +kernel), good_of_word (by decide +kernel)⟩
set_option maxRecDepth 100000 in
theorem dw_460 : lw_in (Cond.code yX11_unit cX11_unit 1 none) := ⟨List.mem_of_getElem? (i := 1627) rfl, good_of_word (by decide +kernel)⟩
theorem dw_461 : lw_in (Cond.selects RX11 yX11_emit yX11_emit) := ⟨List.mem_of_getElem? (i := 122) (by decide +kernel), good_of_word (by decide +kernel)⟩
theorem dw_462 : lw_in (Cond.instanceMethod yX11_emit) := ⟨List.mem_of_getElem? (i := 1630) (by decide +kernel), good_of_word (by decide +kernel)⟩
theorem dw_463 : lw_in (Cond.methodLink RX11 267 yX11_emit) := ⟨List.mem_of_getElem? (i := 1628) (by decide +kernel), good_of_word (by decide +kernel)⟩
set_option maxRecDepth 100000 in
theorem dw_464 : lw_in (Cond.code yX11_emit cX11_emit 3 none) := ⟨List.mem_of_getElem? (i := 1631) rfl, good_of_word (by decide +kernel)⟩
theorem dw_465 : lw_in (Cond.fieldLink RX11 86 "GuessFerryModel" "codeInt" "[I") := ⟨List.mem_of_getElem? (i := 1400) (by decide +kernel), good_of_word (by decide +kernel)⟩
theorem dw_466 : lw_in (Cond.fieldLink RX11 83 "GuessFerryModel" "code" "[I") := ⟨List.mem_of_getElem? (i := 1399) (by decide +kernel), good_of_word (by decide +kernel)⟩
set_option maxRecDepth 100000 in
theorem dw_467 : lw_in (Cond.code yX11_comesOut cX11_comesOut 3 none) := ⟨List.mem_of_getElem? (i := 1635) rfl, good_of_word (by decide +kernel)⟩
set_option maxRecDepth 100000 in
theorem dw_468 : lw_in (Cond.code yX11_term cX11_term 1 none) := ⟨List.mem_of_getElem? (i := 1639) rfl, good_of_word (by decide +kernel)⟩
theorem dw_469 : lw_in (Cond.fieldLink RX11 80 "GuessFerryModel" "termTo" "[I") := ⟨List.mem_of_getElem? (i := 1397) (by decide +kernel), good_of_word (by decide +kernel)⟩
theorem dw_470 : lw_in (Cond.fieldLink RX11 77 "GuessFerryModel" "testTo" "[I") := ⟨List.mem_of_getElem? (i := 1396) (by decide +kernel), good_of_word (by decide +kernel)⟩
set_option maxRecDepth 100000 in
theorem dw_471 : lw_in (Cond.code yX11_begins cX11_begins 2 none) := ⟨List.mem_of_getElem? (i := 1359) rfl, good_of_word (by decide +kernel)⟩
theorem dw_472 : lw_in (Cond.fieldLink RX11 289 "GuessFerryModel" "lots" "I") := ⟨List.mem_of_getElem? (i := 1408) (by decide +kernel), good_of_word (by decide +kernel)⟩
theorem dw_473 : lw_in (Cond.fieldLink RX11 104 "GuessFerryModel" "sixes" "[I") := ⟨List.mem_of_getElem? (i := 1409) (by decide +kernel), good_of_word (by decide +kernel)⟩
theorem dw_474 : lw_in (Cond.fieldLink RX11 101 "GuessFerryModel" "row" "[I") := ⟨List.mem_of_getElem? (i := 1407) (by decide +kernel), good_of_word (by decide +kernel)⟩
set_option maxRecDepth 100000 in
theorem dw_475 : lw_in (Cond.code yX11_keepsRow cX11_keepsRow 2 none) := ⟨List.mem_of_getElem? (i := 1363) rfl, good_of_word (by decide +kernel)⟩
theorem dw_476 : lw_in (Cond.fieldLink RX11 98 "GuessFerryModel" "now" "[I") := ⟨List.mem_of_getElem? (i := 1406) (by decide +kernel), good_of_word (by decide +kernel)⟩
theorem dw_477 : lw_in (Cond.selects RX11 yX11_read yX11_read) := ⟨List.mem_of_getElem? (i := 1552) (by decide +kernel), good_of_word (by decide +kernel)⟩
theorem dw_478 : lw_in (Cond.instanceMethod yX11_read) := ⟨List.mem_of_getElem? (i := 1551) (by decide +kernel), good_of_word (by decide +kernel)⟩
theorem dw_479 : lw_in (Cond.methodLink R_law 27 yX11_read) := ⟨List.mem_of_getElem? (i := 1550) (by decide +kernel), good_of_word (by decide +kernel)⟩
set_option maxRecDepth 100000 in
theorem dw_480 : lw_in (Cond.code yX10_place cX10_place 1 (some .int)) := ⟨List.mem_of_getElem? (i := 843) rfl, good_of_word (by decide +kernel)⟩
theorem dw_481 : lw_in (Cond.selects RX10 yX10_place yX10_place) := ⟨List.mem_of_getElem? (i := 842) (by decide +kernel), good_of_word (by decide +kernel)⟩
theorem dw_482 : lw_in (Cond.instanceMethod yX10_place) := ⟨List.mem_of_getElem? (i := 841) (by decide +kernel), good_of_word (by decide +kernel)⟩
theorem dw_483 : lw_in (Cond.methodLink R_law 28 yX10_place) := ⟨List.mem_of_getElem? (i := 840) (by decide +kernel), good_of_word (by decide +kernel)⟩
set_option maxRecDepth 100000 in
theorem dw_484 : lw_in (Cond.code yX11_place cX11_place 1 (some .int)) := ⟨List.mem_of_getElem? (i := 1643) rfl, good_of_word (by decide +kernel)⟩
theorem dw_485 : lw_in (Cond.selects RX11 yX11_place yX11_place) := ⟨List.mem_of_getElem? (i := 1642) (by decide +kernel), good_of_word (by decide +kernel)⟩
theorem dw_486 : lw_in (Cond.instanceMethod yX11_place) := ⟨List.mem_of_getElem? (i := 1641) (by decide +kernel), good_of_word (by decide +kernel)⟩
theorem dw_487 : lw_in (Cond.methodLink R_law 31 yX11_place) := ⟨List.mem_of_getElem? (i := 1640) (by decide +kernel), good_of_word (by decide +kernel)⟩
set_option maxRecDepth 100000 in
theorem dw_488 : lw_in (Cond.code yX10_wave cX10_wave 3 (some .int)) := ⟨List.mem_of_getElem? (i := 847) rfl, good_of_word (by decide +kernel)⟩
theorem dw_489 : lw_in (Cond.selects RX0 yX0_shiftsOf yX0_shiftsOf) := ⟨List.mem_of_getElem? (i := 41) (by decide +kernel), good_of_word (by decide +kernel)⟩
theorem dw_490 : lw_in (Cond.instanceMethod yX0_shiftsOf) := ⟨List.mem_of_getElem? (i := 873) (by decide +kernel), good_of_word (by decide +kernel)⟩
theorem dw_491 : lw_in (Cond.selects RX0 yX0_thereNow yX0_thereNow) := ⟨List.mem_of_getElem? (i := 39) (by decide +kernel), good_of_word (by decide +kernel)⟩
theorem dw_492 : lw_in (Cond.instanceMethod yX0_thereNow) := ⟨List.mem_of_getElem? (i := 858) (by decide +kernel), good_of_word (by decide +kernel)⟩
theorem dw_493 : lw_in (Cond.selects RX0 yX0_mayBe yX0_mayBe) := ⟨List.mem_of_getElem? (i := 38) (by decide +kernel), good_of_word (by decide +kernel)⟩
theorem dw_494 : lw_in (Cond.initialized RX0) := ⟨List.mem_of_getElem? (i := 181) (by decide +kernel), good_of_word (by decide +kernel)⟩
theorem dw_495 : lw_in (Cond.instanceMethod yX0_mayBe) := ⟨List.mem_of_getElem? (i := 854) (by decide +kernel), good_of_word (by decide +kernel)⟩
theorem dw_496 : lw_in (Cond.selects RX5 yX5_hasWave yX5_hasWave) := ⟨List.mem_of_getElem? (i := 37) (by decide +kernel), good_of_word (by decide +kernel)⟩
theorem dw_497 : lw_in (Cond.instanceMethod yX5_hasWave) := ⟨List.mem_of_getElem? (i := 850) (by decide +kernel), good_of_word (by decide +kernel)⟩
theorem dw_498 : lw_in (Cond.fieldLink RX10 54 "GuessFerry" "crossing" "LGuessFerry$Crossing;") := ⟨List.mem_of_getElem? (i := 613) (by decide +kernel), good_of_word (by decide +kernel)⟩
set_option maxRecDepth 100000 in
theorem dw_499 : lw_in (Cond.code yX5_hasWave cX5_hasWave 2 (some .boolean)) := ⟨List.mem_of_getElem? (i := 851) rfl, good_of_word (by decide +kernel)⟩
