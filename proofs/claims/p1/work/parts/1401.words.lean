theorem dw_250 : lw_in (Cond.fieldLink RX11 107 "GuessFerryModel" "shiftsNow" "[Z") := ⟨List.mem_of_getElem? (i := 1410) (by decide +kernel), good_of_word (by decide +kernel)⟩
theorem dw_251 : lw_in (Cond.fieldLink RX11 104 "GuessFerryModel" "sixes" "[I") := ⟨List.mem_of_getElem? (i := 1409) (by decide +kernel), good_of_word (by decide +kernel)⟩
theorem dw_252 : lw_in (Cond.fieldLink RX11 101 "GuessFerryModel" "row" "[I") := ⟨List.mem_of_getElem? (i := 1407) (by decide +kernel), good_of_word (by decide +kernel)⟩
theorem dw_253 : lw_in (Cond.fieldLink RX11 98 "GuessFerryModel" "now" "[I") := ⟨List.mem_of_getElem? (i := 1406) (by decide +kernel), good_of_word (by decide +kernel)⟩
theorem dw_254 : lw_in (Cond.fieldLink RX11 95 "GuessFerryModel" "pile" "[I") := ⟨List.mem_of_getElem? (i := 1404) (by decide +kernel), good_of_word (by decide +kernel)⟩
theorem dw_255 : lw_in (Cond.fieldLink RX11 92 "GuessFerryModel" "variables" "[I") := ⟨List.mem_of_getElem? (i := 1403) (by decide +kernel), good_of_word (by decide +kernel)⟩
theorem dw_256 : lw_in (Cond.fieldLink RX11 89 "GuessFerryModel" "waits" "[I") := ⟨List.mem_of_getElem? (i := 1401) (by decide +kernel), good_of_word (by decide +kernel)⟩
theorem dw_257 : lw_in (Cond.fieldLink RX11 86 "GuessFerryModel" "codeInt" "[I") := ⟨List.mem_of_getElem? (i := 1400) (by decide +kernel), good_of_word (by decide +kernel)⟩
theorem dw_258 : lw_in (Cond.fieldLink RX11 83 "GuessFerryModel" "code" "[I") := ⟨List.mem_of_getElem? (i := 1399) (by decide +kernel), good_of_word (by decide +kernel)⟩
theorem dw_259 : lw_in (Cond.fieldLink RX11 80 "GuessFerryModel" "termTo" "[I") := ⟨List.mem_of_getElem? (i := 1397) (by decide +kernel), good_of_word (by decide +kernel)⟩
theorem dw_260 : lw_in (Cond.fieldLink RX11 77 "GuessFerryModel" "testTo" "[I") := ⟨List.mem_of_getElem? (i := 1396) (by decide +kernel), good_of_word (by decide +kernel)⟩
theorem dw_261 : lw_in (Cond.fieldLink RX11 74 "GuessFerryModel" "testMid" "[I") := ⟨List.mem_of_getElem? (i := 1395) (by decide +kernel), good_of_word (by decide +kernel)⟩
theorem dw_262 : lw_in (Cond.fieldLink RX11 71 "GuessFerryModel" "testFrom" "[I") := ⟨List.mem_of_getElem? (i := 1394) (by decide +kernel), good_of_word (by decide +kernel)⟩
theorem dw_263 : lw_in (Cond.fieldLink RX11 67 "GuessFerryModel" "hasTest" "[Z") := ⟨List.mem_of_getElem? (i := 1393) (by decide +kernel), good_of_word (by decide +kernel)⟩
set_option maxRecDepth 100000 in
theorem dw_264 : lw_in (Cond.code yX11_keepsRow cX11_keepsRow 2 none) := ⟨List.mem_of_getElem? (i := 1363) rfl, good_of_word (by decide +kernel)⟩
theorem dw_265 : lw_in (Cond.selects RX11 yX11_keepsRow yX11_keepsRow) := ⟨List.mem_of_getElem? (i := 103) (by decide +kernel), good_of_word (by decide +kernel)⟩
theorem dw_266 : lw_in (Cond.instanceMethod yX11_keepsRow) := ⟨List.mem_of_getElem? (i := 1362) (by decide +kernel), good_of_word (by decide +kernel)⟩
theorem dw_267 : lw_in (Cond.methodLink RX11 145 yX11_keepsRow) := ⟨List.mem_of_getElem? (i := 1360) (by decide +kernel), good_of_word (by decide +kernel)⟩
theorem dw_268 : lw_in (Cond.fieldLink RX11 289 "GuessFerryModel" "lots" "I") := ⟨List.mem_of_getElem? (i := 1408) (by decide +kernel), good_of_word (by decide +kernel)⟩
theorem dw_269 : lw_in (Cond.fieldLink RX11 215 "GuessFerryModel" "live" "I") := ⟨List.mem_of_getElem? (i := 1381) (by decide +kernel), good_of_word (by decide +kernel)⟩
set_option maxRecDepth 100000 in
theorem dw_270 : lw_in (Cond.code yX11_begins cX11_begins 2 none) := ⟨List.mem_of_getElem? (i := 1359) rfl, good_of_word (by decide +kernel)⟩
theorem dw_271 : lw_in (Cond.selects RX11 yX11_begins yX11_begins) := ⟨List.mem_of_getElem? (i := 102) (by decide +kernel), good_of_word (by decide +kernel)⟩
theorem dw_272 : lw_in (Cond.instanceMethod yX11_begins) := ⟨List.mem_of_getElem? (i := 1358) (by decide +kernel), good_of_word (by decide +kernel)⟩
theorem dw_273 : lw_in (Cond.methodLink RX11 142 yX11_begins) := ⟨List.mem_of_getElem? (i := 1356) (by decide +kernel), good_of_word (by decide +kernel)⟩
theorem dw_274 : lw_in (Cond.constantLong RX11 157 (27)) := ⟨List.mem_of_getElem? (i := 1355) (by decide +kernel), good_of_word (by decide +kernel)⟩
set_option maxRecDepth 100000 in
theorem dw_275 : lw_in (Cond.code yX11_appends cX11_appends 3 (some .long)) := ⟨List.mem_of_getElem? (i := 1354) rfl, good_of_word (by decide +kernel)⟩
theorem dw_276 : lw_in (Cond.static yX11_appends) := ⟨List.mem_of_getElem? (i := 1353) (by decide +kernel), good_of_word (by decide +kernel)⟩
theorem dw_277 : lw_in (Cond.methodLink RX11 159 yX11_appends) := ⟨List.mem_of_getElem? (i := 1352) (by decide +kernel), good_of_word (by decide +kernel)⟩
set_option maxRecDepth 100000 in
theorem dw_278 : lw_in (Cond.code yX11_word cX11_word 7 (some .long)) := ⟨List.mem_of_getElem? (i := 1351) rfl, good_of_word (by decide +kernel)⟩
theorem dw_279 : lw_in (Cond.static yX11_word) := ⟨List.mem_of_getElem? (i := 1350) (by decide +kernel), good_of_word (by decide +kernel)⟩
theorem dw_280 : lw_in (Cond.methodLink RX11 138 yX11_word) := ⟨List.mem_of_getElem? (i := 1349) (by decide +kernel), good_of_word (by decide +kernel)⟩
set_option maxRecDepth 100000 in
theorem dw_281 : lw_in (Cond.code yX11_plain cX11_plain 3 none) := ⟨List.mem_of_getElem? (i := 1348) rfl, good_of_word (by decide +kernel)⟩
theorem dw_282 : lw_in (Cond.initialized RX11) := ⟨List.mem_of_getElem? (i := 185) (by decide +kernel), good_of_word (by decide +kernel)⟩
theorem dw_283 : lw_in (Cond.selects RX11 yX11_plain yX11_plain) := ⟨List.mem_of_getElem? (i := 101) (by decide +kernel), good_of_word (by decide +kernel)⟩
set_option maxRecDepth 100000 in
theorem dw_284 : lw_in (Cond.code yX10_feed cX10_feed 6 (some .int)) := ⟨List.mem_of_getElem? (i := 638) rfl, good_of_word (by decide +kernel)⟩
set_option maxRecDepth 100000 in
theorem dw_285 : lw_in (Cond.code yX7_addFour cX7_addFour 3 none) := ⟨List.mem_of_getElem? (i := 646) rfl, good_of_word (by decide +kernel)⟩
theorem dw_286 : lw_in (Cond.selects RX7 yX7_addFour yX7_addFour) := ⟨List.mem_of_getElem? (i := 9) (by decide +kernel), good_of_word (by decide +kernel)⟩
theorem dw_287 : lw_in (Cond.instanceMethod yX7_addFour) := ⟨List.mem_of_getElem? (i := 645) (by decide +kernel), good_of_word (by decide +kernel)⟩
theorem dw_288 : lw_in (Cond.fieldLink RX7 15 "GuessFerry$Tape" "length" "I") := ⟨List.mem_of_getElem? (i := 205) (by decide +kernel), good_of_word (by decide +kernel)⟩
set_option maxRecDepth 100000 in
theorem dw_289 : lw_in (Cond.code yX7_hasRoomFor cX7_hasRoomFor 2 (some .boolean)) := ⟨List.mem_of_getElem? (i := 642) rfl, good_of_word (by decide +kernel)⟩
theorem dw_290 : lw_in (Cond.selects RX7 yX7_hasRoomFor yX7_hasRoomFor) := ⟨List.mem_of_getElem? (i := 8) (by decide +kernel), good_of_word (by decide +kernel)⟩
theorem dw_291 : lw_in (Cond.instanceMethod yX7_hasRoomFor) := ⟨List.mem_of_getElem? (i := 641) (by decide +kernel), good_of_word (by decide +kernel)⟩
theorem dw_292 : lw_in (Cond.initialized RX10) := ⟨List.mem_of_getElem? (i := 169) (by decide +kernel), good_of_word (by decide +kernel)⟩
theorem dw_293 : lw_in (Cond.selects RX10 yX10_feed yX10_feed) := ⟨List.mem_of_getElem? (i := 637) (by decide +kernel), good_of_word (by decide +kernel)⟩
theorem dw_294 : lw_in (Cond.instanceMethod yX10_feed) := ⟨List.mem_of_getElem? (i := 636) (by decide +kernel), good_of_word (by decide +kernel)⟩
theorem dw_295 : lw_in (Cond.methodLink R_law 13 yX10_feed) := ⟨List.mem_of_getElem? (i := 635) (by decide +kernel), good_of_word (by decide +kernel)⟩
set_option maxRecDepth 100000 in
theorem dw_296 : lw_in (Cond.code yX11_feed cX11_feed 6 (some .int)) := ⟨List.mem_of_getElem? (i := 1541) rfl, good_of_word (by decide +kernel)⟩
set_option maxRecDepth 100000 in
theorem dw_297 : lw_in (Cond.code yX11_put cX11_put 3 none) := ⟨List.mem_of_getElem? (i := 1545) rfl, good_of_word (by decide +kernel)⟩
theorem dw_298 : lw_in (Cond.selects RX11 yX11_put yX11_put) := ⟨List.mem_of_getElem? (i := 104) (by decide +kernel), good_of_word (by decide +kernel)⟩
theorem dw_299 : lw_in (Cond.instanceMethod yX11_put) := ⟨List.mem_of_getElem? (i := 1544) (by decide +kernel), good_of_word (by decide +kernel)⟩
theorem dw_300 : lw_in (Cond.methodLink RX11 151 yX11_put) := ⟨List.mem_of_getElem? (i := 1542) (by decide +kernel), good_of_word (by decide +kernel)⟩
theorem dw_301 : lw_in (Cond.fieldLink RX11 148 "GuessFerryModel" "taped" "I") := ⟨List.mem_of_getElem? (i := 1365) (by decide +kernel), good_of_word (by decide +kernel)⟩
theorem dw_302 : lw_in (Cond.selects RX11 yX11_feed yX11_feed) := ⟨List.mem_of_getElem? (i := 1540) (by decide +kernel), good_of_word (by decide +kernel)⟩
theorem dw_303 : lw_in (Cond.instanceMethod yX11_feed) := ⟨List.mem_of_getElem? (i := 1539) (by decide +kernel), good_of_word (by decide +kernel)⟩
theorem dw_304 : lw_in (Cond.methodLink R_law 17 yX11_feed) := ⟨List.mem_of_getElem? (i := 1538) (by decide +kernel), good_of_word (by decide +kernel)⟩
set_option maxRecDepth 100000 in
theorem dw_305 : lw_in (Cond.code yX10_back cX10_back 2 (some .int)) := ⟨List.mem_of_getElem? (i := 650) rfl, good_of_word (by decide +kernel)⟩
theorem dw_306 : lw_in (Cond.selects RX10 yX10_back yX10_back) := ⟨List.mem_of_getElem? (i := 649) (by decide +kernel), good_of_word (by decide +kernel)⟩
theorem dw_307 : lw_in (Cond.instanceMethod yX10_back) := ⟨List.mem_of_getElem? (i := 648) (by decide +kernel), good_of_word (by decide +kernel)⟩
theorem dw_308 : lw_in (Cond.methodLink R_law 18 yX10_back) := ⟨List.mem_of_getElem? (i := 647) (by decide +kernel), good_of_word (by decide +kernel)⟩
set_option maxRecDepth 100000 in
theorem dw_309 : lw_in (Cond.code yX11_back cX11_back 2 (some .int)) := ⟨List.mem_of_getElem? (i := 1549) rfl, good_of_word (by decide +kernel)⟩
theorem dw_310 : lw_in (Cond.selects RX11 yX11_back yX11_back) := ⟨List.mem_of_getElem? (i := 1548) (by decide +kernel), good_of_word (by decide +kernel)⟩
theorem dw_311 : lw_in (Cond.instanceMethod yX11_back) := ⟨List.mem_of_getElem? (i := 1547) (by decide +kernel), good_of_word (by decide +kernel)⟩
theorem dw_312 : lw_in (Cond.methodLink R_law 22 yX11_back) := ⟨List.mem_of_getElem? (i := 1546) (by decide +kernel), good_of_word (by decide +kernel)⟩
set_option maxRecDepth 100000 in
theorem dw_313 : lw_in (Cond.code yX10_read cX10_read 2 (some .int)) := ⟨List.mem_of_getElem? (i := 654) rfl, good_of_word (by decide +kernel)⟩
theorem dw_314 : lw_in (Cond.fieldLink RX4 47 "GuessFerry$Reader" "laterPlace" "I") := ⟨List.mem_of_getElem? (i := 440) (by decide +kernel), good_of_word (by decide +kernel)⟩
theorem dw_315 : lw_in (Cond.fieldLink RX4 44 "GuessFerry$Reader" "laterFault" "I") := ⟨List.mem_of_getElem? (i := 439) (by decide +kernel), good_of_word (by decide +kernel)⟩
theorem dw_316 : lw_in (Cond.fieldLink RX4 41 "GuessFerry$Reader" "fault" "I") := ⟨List.mem_of_getElem? (i := 436) (by decide +kernel), good_of_word (by decide +kernel)⟩
theorem dw_317 : lw_in (Cond.fieldLink RX4 38 "GuessFerry$Reader" "at" "I") := ⟨List.mem_of_getElem? (i := 435) (by decide +kernel), good_of_word (by decide +kernel)⟩
set_option maxRecDepth 100000 in
theorem dw_318 : lw_in (Cond.code yX4_readTape cX4_readTape 2 (some .int)) := ⟨List.mem_of_getElem? (i := 658) rfl, good_of_word (by decide +kernel)⟩
theorem dw_319 : lw_in (Cond.selects RX4 yX4_readTape yX4_readTape) := ⟨List.mem_of_getElem? (i := 10) (by decide +kernel), good_of_word (by decide +kernel)⟩
theorem dw_320 : lw_in (Cond.instanceMethod yX4_readTape) := ⟨List.mem_of_getElem? (i := 657) (by decide +kernel), good_of_word (by decide +kernel)⟩
theorem dw_321 : lw_in (Cond.instanceMethod yX7_byteAt) := ⟨List.mem_of_getElem? (i := 670) (by decide +kernel), good_of_word (by decide +kernel)⟩
set_option maxRecDepth 100000 in
theorem dw_322 : lw_in (Cond.code yX9_skipBlanks cX9_skipBlanks 1 none) := ⟨List.mem_of_getElem? (i := 667) rfl, good_of_word (by decide +kernel)⟩
theorem dw_323 : lw_in (Cond.selects RX9 yX9_skipBlanks yX9_skipBlanks) := ⟨List.mem_of_getElem? (i := 12) (by decide +kernel), good_of_word (by decide +kernel)⟩
theorem dw_324 : lw_in (Cond.instanceMethod yX9_skipBlanks) := ⟨List.mem_of_getElem? (i := 666) (by decide +kernel), good_of_word (by decide +kernel)⟩
theorem dw_325 : lw_in (Cond.methodLink RX9 51 yX9_skipBlanks) := ⟨List.mem_of_getElem? (i := 664) (by decide +kernel), good_of_word (by decide +kernel)⟩
theorem dw_326 : lw_in (Cond.fieldLink RX9 57 "GuessFerry$Tokens" "value" "J") := ⟨List.mem_of_getElem? (i := 414) (by decide +kernel), good_of_word (by decide +kernel)⟩
theorem dw_327 : lw_in (Cond.fieldLink RX9 47 "GuessFerry$Tokens" "end" "I") := ⟨List.mem_of_getElem? (i := 413) (by decide +kernel), good_of_word (by decide +kernel)⟩
set_option maxRecDepth 100000 in
theorem dw_328 : lw_in (Cond.code yX9_split cX9_split 3 none) := ⟨List.mem_of_getElem? (i := 663) rfl, good_of_word (by decide +kernel)⟩
theorem dw_329 : lw_in (Cond.selects RX9 yX9_split yX9_split) := ⟨List.mem_of_getElem? (i := 11) (by decide +kernel), good_of_word (by decide +kernel)⟩
theorem dw_330 : lw_in (Cond.instanceMethod yX9_split) := ⟨List.mem_of_getElem? (i := 662) (by decide +kernel), good_of_word (by decide +kernel)⟩
theorem dw_331 : lw_in (Cond.static yX9_isDigit) := ⟨List.mem_of_getElem? (i := 684) (by decide +kernel), good_of_word (by decide +kernel)⟩
theorem dw_332 : lw_in (Cond.methodLink RX9 75 yX9_isDigit) := ⟨List.mem_of_getElem? (i := 683) (by decide +kernel), good_of_word (by decide +kernel)⟩
set_option maxRecDepth 100000 in
theorem dw_333 : lw_in (Cond.code yX9_splitLetters cX9_splitLetters 3 (some .int)) := ⟨List.mem_of_getElem? (i := 682) rfl, good_of_word (by decide +kernel)⟩
theorem dw_334 : lw_in (Cond.selects RX9 yX9_splitLetters yX9_splitLetters) := ⟨List.mem_of_getElem? (i := 15) (by decide +kernel), good_of_word (by decide +kernel)⟩
theorem dw_335 : lw_in (Cond.instanceMethod yX9_splitLetters) := ⟨List.mem_of_getElem? (i := 681) (by decide +kernel), good_of_word (by decide +kernel)⟩
theorem dw_336 : lw_in (Cond.methodLink RX9 72 yX9_splitLetters) := ⟨List.mem_of_getElem? (i := 679) (by decide +kernel), good_of_word (by decide +kernel)⟩
set_option maxRecDepth 100000 in
theorem dw_337 : lw_in (Cond.code yX9_splitOne cX9_splitOne 2 (some .int)) := ⟨List.mem_of_getElem? (i := 678) rfl, good_of_word (by decide +kernel)⟩
theorem dw_338 : lw_in (Cond.selects RX9 yX9_splitOne yX9_splitOne) := ⟨List.mem_of_getElem? (i := 14) (by decide +kernel), good_of_word (by decide +kernel)⟩
theorem dw_339 : lw_in (Cond.instanceMethod yX9_splitOne) := ⟨List.mem_of_getElem? (i := 677) (by decide +kernel), good_of_word (by decide +kernel)⟩
theorem dw_340 : lw_in (Cond.methodLink RX9 54 yX9_splitOne) := ⟨List.mem_of_getElem? (i := 675) (by decide +kernel), good_of_word (by decide +kernel)⟩
set_option maxRecDepth 100000 in
theorem dw_341 : lw_in (Cond.code yX9_isBlank cX9_isBlank 1 (some .boolean)) := ⟨List.mem_of_getElem? (i := 674) rfl, good_of_word (by decide +kernel)⟩
theorem dw_342 : lw_in (Cond.static yX9_isBlank) := ⟨List.mem_of_getElem? (i := 673) (by decide +kernel), good_of_word (by decide +kernel)⟩
theorem dw_343 : lw_in (Cond.methodLink RX9 69 yX9_isBlank) := ⟨List.mem_of_getElem? (i := 672) (by decide +kernel), good_of_word (by decide +kernel)⟩
set_option maxRecDepth 100000 in
theorem dw_344 : lw_in (Cond.code yX7_byteAt cX7_byteAt 2 (some .int)) := ⟨List.mem_of_getElem? (i := 671) rfl, good_of_word (by decide +kernel)⟩
theorem dw_345 : lw_in (Cond.selects RX7 yX7_byteAt yX7_byteAt) := ⟨List.mem_of_getElem? (i := 13) (by decide +kernel), good_of_word (by decide +kernel)⟩
theorem dw_346 : lw_in (Cond.methodLink RJ0 505 yJ0_length_8abf5) := ⟨List.mem_of_getElem? (i := 701) (by decide +kernel), good_of_word (by decide +kernel)⟩
set_option maxRecDepth 100000 in
theorem dw_347 : lw_in (Cond.code yJ0_indexOf_7cf53 cJ0_indexOf_7cf53 3 (some .int)) := ⟨List.mem_of_getElem? (i := 700) rfl, good_of_word (by decide +kernel)⟩
theorem dw_348 : lw_in (Cond.selects RJ0 yJ0_indexOf_7cf53 yJ0_indexOf_7cf53) := ⟨List.mem_of_getElem? (i := 699) (by decide +kernel), good_of_word (by decide +kernel)⟩
theorem dw_349 : lw_in (Cond.instanceMethod yJ0_indexOf_7cf53) := ⟨List.mem_of_getElem? (i := 698) (by decide +kernel), good_of_word (by decide +kernel)⟩
theorem dw_350 : lw_in (Cond.methodLink RJ0 633 yJ0_indexOf_7cf53) := ⟨List.mem_of_getElem? (i := 697) (by decide +kernel), good_of_word (by decide +kernel)⟩
set_option maxRecDepth 100000 in
theorem dw_351 : lw_in (Cond.code yJ0_indexOf_0f7a4 cJ0_indexOf_0f7a4 2 (some .int)) := ⟨List.mem_of_getElem? (i := 696) rfl, good_of_word (by decide +kernel)⟩
theorem dw_352 : lw_in (Cond.selects RJ0 yJ0_indexOf_0f7a4 yJ0_indexOf_0f7a4) := ⟨List.mem_of_getElem? (i := 695) (by decide +kernel), good_of_word (by decide +kernel)⟩
theorem dw_353 : lw_in (Cond.instanceMethod yJ0_indexOf_0f7a4) := ⟨List.mem_of_getElem? (i := 694) (by decide +kernel), good_of_word (by decide +kernel)⟩
theorem dw_354 : lw_in (Cond.methodLink RX9 83 yJ0_indexOf_0f7a4) := ⟨List.mem_of_getElem? (i := 693) (by decide +kernel), good_of_word (by decide +kernel)⟩
theorem dw_355 : lw_in (Cond.constantLong RX9 88 (48)) := ⟨List.mem_of_getElem? (i := 691) (by decide +kernel), good_of_word (by decide +kernel)⟩
theorem dw_356 : lw_in (Cond.constantLong RX9 86 (10)) := ⟨List.mem_of_getElem? (i := 690) (by decide +kernel), good_of_word (by decide +kernel)⟩
set_option maxRecDepth 100000 in
theorem dw_357 : lw_in (Cond.code yX9_splitDigits cX9_splitDigits 2 (some .int)) := ⟨List.mem_of_getElem? (i := 689) rfl, good_of_word (by decide +kernel)⟩
theorem dw_358 : lw_in (Cond.selects RX9 yX9_splitDigits yX9_splitDigits) := ⟨List.mem_of_getElem? (i := 16) (by decide +kernel), good_of_word (by decide +kernel)⟩
theorem dw_359 : lw_in (Cond.instanceMethod yX9_splitDigits) := ⟨List.mem_of_getElem? (i := 688) (by decide +kernel), good_of_word (by decide +kernel)⟩
theorem dw_360 : lw_in (Cond.methodLink RX9 78 yX9_splitDigits) := ⟨List.mem_of_getElem? (i := 686) (by decide +kernel), good_of_word (by decide +kernel)⟩
set_option maxRecDepth 100000 in
theorem dw_361 : lw_in (Cond.code yX9_isDigit cX9_isDigit 1 (some .boolean)) := ⟨List.mem_of_getElem? (i := 685) rfl, good_of_word (by decide +kernel)⟩
set_option maxRecDepth 100000 in
theorem dw_362 : lw_in (Cond.code yJ1_indexOfChar_4cfef cJ1_indexOfChar_4cfef 6 (some .int)) := ⟨List.mem_of_getElem? (i := 716) rfl, good_of_word (by decide +kernel)⟩
theorem dw_363 : lw_in (Cond.static yJ1_indexOfChar_4cfef) := ⟨List.mem_of_getElem? (i := 715) (by decide +kernel), good_of_word (by decide +kernel)⟩
theorem dw_364 : lw_in (Cond.methodLink RJ1 95 yJ1_indexOfChar_4cfef) := ⟨List.mem_of_getElem? (i := 714) (by decide +kernel), good_of_word (by decide +kernel)⟩
set_option maxRecDepth 100000 in
theorem dw_365 : lw_in (Cond.code yJ1_canEncode_9a6ad cJ1_canEncode_9a6ad 1 (some .boolean)) := ⟨List.mem_of_getElem? (i := 707) rfl, good_of_word (by decide +kernel)⟩
theorem dw_366 : lw_in (Cond.static yJ1_canEncode_9a6ad) := ⟨List.mem_of_getElem? (i := 706) (by decide +kernel), good_of_word (by decide +kernel)⟩
theorem dw_367 : lw_in (Cond.methodLink RJ1 88 yJ1_canEncode_9a6ad) := ⟨List.mem_of_getElem? (i := 705) (by decide +kernel), good_of_word (by decide +kernel)⟩
set_option maxRecDepth 100000 in
theorem dw_368 : lw_in (Cond.code Lib.Math.min.name Lib.Math.min.code 2 (some .int)) := ⟨List.mem_of_getElem? (i := 713) rfl, good_of_word (by decide +kernel)⟩
theorem dw_369 : lw_in (Cond.static Lib.Math.min.name) := ⟨List.mem_of_getElem? (i := 712) (by decide +kernel), good_of_word (by decide +kernel)⟩
theorem dw_370 : lw_in (Cond.methodLink RJ1 38 Lib.Math.min.name) := ⟨List.mem_of_getElem? (i := 711) (by decide +kernel), good_of_word (by decide +kernel)⟩
set_option maxRecDepth 100000 in
theorem dw_371 : lw_in (Cond.code Lib.Math.max.name Lib.Math.max.code 2 (some .int)) := ⟨List.mem_of_getElem? (i := 710) rfl, good_of_word (by decide +kernel)⟩
theorem dw_372 : lw_in (Cond.initialized "java/lang/Math") := ⟨List.mem_of_getElem? (i := 186) (by decide +kernel), good_of_word (by decide +kernel)⟩
theorem dw_373 : lw_in (Cond.static Lib.Math.max.name) := ⟨List.mem_of_getElem? (i := 709) (by decide +kernel), good_of_word (by decide +kernel)⟩
theorem dw_374 : lw_in (Cond.methodLink RJ1 92 Lib.Math.max.name) := ⟨List.mem_of_getElem? (i := 708) (by decide +kernel), good_of_word (by decide +kernel)⟩
set_option maxRecDepth 100000 in
theorem dw_375 : lw_in (Cond.code yJ1_indexOf_4cfef cJ1_indexOf_4cfef 4 (some .int)) := ⟨List.mem_of_getElem? (i := 704) rfl, good_of_word (by decide +kernel)⟩
theorem dw_376 : lw_in (Cond.static yJ1_indexOf_4cfef) := ⟨List.mem_of_getElem? (i := 703) (by decide +kernel), good_of_word (by decide +kernel)⟩
theorem dw_377 : lw_in (Cond.methodLink RJ0 637 yJ1_indexOf_4cfef) := ⟨List.mem_of_getElem? (i := 702) (by decide +kernel), good_of_word (by decide +kernel)⟩
set_option maxRecDepth 100000 in
theorem dw_378 : lw_in (Cond.code yJ3_checkFromToIndex_8c36e cJ3_checkFromToIndex_8c36e 4 (some .int)) := ⟨List.mem_of_getElem? (i := 734) rfl, good_of_word (by decide +kernel)⟩
theorem dw_379 : lw_in (Cond.static yJ3_checkFromToIndex_8c36e) := ⟨List.mem_of_getElem? (i := 733) (by decide +kernel), good_of_word (by decide +kernel)⟩
theorem dw_380 : lw_in (Cond.methodLink RJ0 1062 yJ3_checkFromToIndex_8c36e) := ⟨List.mem_of_getElem? (i := 732) (by decide +kernel), good_of_word (by decide +kernel)⟩
set_option maxRecDepth 100000 in
theorem dw_381 : lw_in (Cond.code yJ0_checkBoundsBeginEnd_23922 cJ0_checkBoundsBeginEnd_23922 3 none) := ⟨List.mem_of_getElem? (i := 731) rfl, good_of_word (by decide +kernel)⟩
theorem dw_382 : lw_in (Cond.static yJ0_checkBoundsBeginEnd_23922) := ⟨List.mem_of_getElem? (i := 730) (by decide +kernel), good_of_word (by decide +kernel)⟩
theorem dw_383 : lw_in (Cond.methodLink RJ2 241 yJ0_checkBoundsBeginEnd_23922) := ⟨List.mem_of_getElem? (i := 729) (by decide +kernel), good_of_word (by decide +kernel)⟩
set_option maxRecDepth 100000 in
theorem dw_384 : lw_in (Cond.code yJ2_checkBoundsBeginEnd_d044e cJ2_checkBoundsBeginEnd_d044e 3 none) := ⟨List.mem_of_getElem? (i := 728) rfl, good_of_word (by decide +kernel)⟩
theorem dw_385 : lw_in (Cond.static yJ2_checkBoundsBeginEnd_d044e) := ⟨List.mem_of_getElem? (i := 727) (by decide +kernel), good_of_word (by decide +kernel)⟩
theorem dw_386 : lw_in (Cond.methodLink RJ2 96 yJ2_checkBoundsBeginEnd_d044e) := ⟨List.mem_of_getElem? (i := 726) (by decide +kernel), good_of_word (by decide +kernel)⟩
set_option maxRecDepth 100000 in
theorem dw_387 : lw_in (Cond.code yJ2_indexOfChar_4cfef cJ2_indexOfChar_4cfef 4 (some .int)) := ⟨List.mem_of_getElem? (i := 725) rfl, good_of_word (by decide +kernel)⟩
theorem dw_388 : lw_in (Cond.static yJ2_indexOfChar_4cfef) := ⟨List.mem_of_getElem? (i := 724) (by decide +kernel), good_of_word (by decide +kernel)⟩
theorem dw_389 : lw_in (Cond.methodLink RJ2 228 yJ2_indexOfChar_4cfef) := ⟨List.mem_of_getElem? (i := 723) (by decide +kernel), good_of_word (by decide +kernel)⟩
theorem dw_390 : lw_in (Cond.constant RJ2 227 (65536)) := ⟨List.mem_of_getElem? (i := 722) (by decide +kernel), good_of_word (by decide +kernel)⟩
theorem dw_391 : lw_in (Cond.methodLink RJ2 183 Lib.Math.min.name) := ⟨List.mem_of_getElem? (i := 721) (by decide +kernel), good_of_word (by decide +kernel)⟩
theorem dw_392 : lw_in (Cond.methodLink RJ2 224 Lib.Math.max.name) := ⟨List.mem_of_getElem? (i := 720) (by decide +kernel), good_of_word (by decide +kernel)⟩
set_option maxRecDepth 100000 in
theorem dw_393 : lw_in (Cond.code yJ2_indexOf_4cfef cJ2_indexOf_4cfef 4 (some .int)) := ⟨List.mem_of_getElem? (i := 719) rfl, good_of_word (by decide +kernel)⟩
theorem dw_394 : lw_in (Cond.static yJ2_indexOf_4cfef) := ⟨List.mem_of_getElem? (i := 718) (by decide +kernel), good_of_word (by decide +kernel)⟩
theorem dw_395 : lw_in (Cond.methodLink RJ0 640 yJ2_indexOf_4cfef) := ⟨List.mem_of_getElem? (i := 717) (by decide +kernel), good_of_word (by decide +kernel)⟩
theorem dw_396 : lw_in (Cond.constant RJ11 76 (56320)) := ⟨List.mem_of_getElem? (i := 751) (by decide +kernel), good_of_word (by decide +kernel)⟩
set_option maxRecDepth 100000 in
theorem dw_397 : lw_in (Cond.code yJ11_lowSurrogate_5068e cJ11_lowSurrogate_5068e 1 (some .char)) := ⟨List.mem_of_getElem? (i := 750) rfl, good_of_word (by decide +kernel)⟩
theorem dw_398 : lw_in (Cond.static yJ11_lowSurrogate_5068e) := ⟨List.mem_of_getElem? (i := 749) (by decide +kernel), good_of_word (by decide +kernel)⟩
theorem dw_399 : lw_in (Cond.methodLink RJ2 161 yJ11_lowSurrogate_5068e) := ⟨List.mem_of_getElem? (i := 748) (by decide +kernel), good_of_word (by decide +kernel)⟩
theorem dw_400 : lw_in (Cond.constant RJ11 110 (55232)) := ⟨List.mem_of_getElem? (i := 747) (by decide +kernel), good_of_word (by decide +kernel)⟩
set_option maxRecDepth 100000 in
theorem dw_401 : lw_in (Cond.code yJ11_highSurrogate_5068e cJ11_highSurrogate_5068e 1 (some .char)) := ⟨List.mem_of_getElem? (i := 746) rfl, good_of_word (by decide +kernel)⟩
theorem dw_402 : lw_in (Cond.static yJ11_highSurrogate_5068e) := ⟨List.mem_of_getElem? (i := 745) (by decide +kernel), good_of_word (by decide +kernel)⟩
theorem dw_403 : lw_in (Cond.methodLink RJ2 157 yJ11_highSurrogate_5068e) := ⟨List.mem_of_getElem? (i := 744) (by decide +kernel), good_of_word (by decide +kernel)⟩
set_option maxRecDepth 100000 in
theorem dw_404 : lw_in (Cond.code yJ11_isValidCodePoint_9a6ad cJ11_isValidCodePoint_9a6ad 2 (some .boolean)) := ⟨List.mem_of_getElem? (i := 743) rfl, good_of_word (by decide +kernel)⟩
theorem dw_405 : lw_in (Cond.initialized RJ11) := ⟨List.mem_of_getElem? (i := 187) (by decide +kernel), good_of_word (by decide +kernel)⟩
theorem dw_406 : lw_in (Cond.static yJ11_isValidCodePoint_9a6ad) := ⟨List.mem_of_getElem? (i := 742) (by decide +kernel), good_of_word (by decide +kernel)⟩
theorem dw_407 : lw_in (Cond.methodLink RJ2 164 yJ11_isValidCodePoint_9a6ad) := ⟨List.mem_of_getElem? (i := 741) (by decide +kernel), good_of_word (by decide +kernel)⟩
set_option maxRecDepth 100000 in
theorem dw_408 : lw_in (Cond.code yJ2_indexOfSupplementary_4cfef cJ2_indexOfSupplementary_4cfef 7 (some .int)) := ⟨List.mem_of_getElem? (i := 740) rfl, good_of_word (by decide +kernel)⟩
theorem dw_409 : lw_in (Cond.static yJ2_indexOfSupplementary_4cfef) := ⟨List.mem_of_getElem? (i := 739) (by decide +kernel), good_of_word (by decide +kernel)⟩
theorem dw_410 : lw_in (Cond.methodLink RJ2 232 yJ2_indexOfSupplementary_4cfef) := ⟨List.mem_of_getElem? (i := 738) (by decide +kernel), good_of_word (by decide +kernel)⟩
set_option maxRecDepth 100000 in
theorem dw_411 : lw_in (Cond.code yJ2_indexOfCharUnsafe_4cfef cJ2_indexOfCharUnsafe_4cfef 5 (some .int)) := ⟨List.mem_of_getElem? (i := 737) rfl, good_of_word (by decide +kernel)⟩
theorem dw_412 : lw_in (Cond.static yJ2_indexOfCharUnsafe_4cfef) := ⟨List.mem_of_getElem? (i := 736) (by decide +kernel), good_of_word (by decide +kernel)⟩
theorem dw_413 : lw_in (Cond.methodLink RJ2 244 yJ2_indexOfCharUnsafe_4cfef) := ⟨List.mem_of_getElem? (i := 735) (by decide +kernel), good_of_word (by decide +kernel)⟩
set_option maxRecDepth 100000 in
theorem dw_414 : lw_in (Cond.code yX4_takeInt cX4_takeInt 3 (some .int)) := ⟨List.mem_of_getElem? (i := 775) rfl, good_of_word (by decide +kernel)⟩
theorem dw_415 : lw_in (Cond.selects RX4 yX4_takeInt yX4_takeInt) := ⟨List.mem_of_getElem? (i := 22) (by decide +kernel), good_of_word (by decide +kernel)⟩
theorem dw_416 : lw_in (Cond.instanceMethod yX4_takeInt) := ⟨List.mem_of_getElem? (i := 774) (by decide +kernel), good_of_word (by decide +kernel)⟩
theorem dw_417 : lw_in (Cond.methodLink RX4 90 yX4_takeInt) := ⟨List.mem_of_getElem? (i := 772) (by decide +kernel), good_of_word (by decide +kernel)⟩
set_option maxRecDepth 100000 in
theorem dw_418 : lw_in (Cond.code yX4_take cX4_take 2 none) := ⟨List.mem_of_getElem? (i := 771) rfl, good_of_word (by decide +kernel)⟩
theorem dw_419 : lw_in (Cond.selects RX4 yX4_take yX4_take) := ⟨List.mem_of_getElem? (i := 21) (by decide +kernel), good_of_word (by decide +kernel)⟩
theorem dw_420 : lw_in (Cond.instanceMethod yX4_take) := ⟨List.mem_of_getElem? (i := 770) (by decide +kernel), good_of_word (by decide +kernel)⟩
theorem dw_421 : lw_in (Cond.methodLink RX4 81 yX4_take) := ⟨List.mem_of_getElem? (i := 768) (by decide +kernel), good_of_word (by decide +kernel)⟩
set_option maxRecDepth 100000 in
theorem dw_422 : lw_in (Cond.code yX4_fail cX4_fail 2 none) := ⟨List.mem_of_getElem? (i := 767) rfl, good_of_word (by decide +kernel)⟩
theorem dw_423 : lw_in (Cond.selects RX4 yX4_fail yX4_fail) := ⟨List.mem_of_getElem? (i := 20) (by decide +kernel), good_of_word (by decide +kernel)⟩
theorem dw_424 : lw_in (Cond.instanceMethod yX4_fail) := ⟨List.mem_of_getElem? (i := 766) (by decide +kernel), good_of_word (by decide +kernel)⟩
theorem dw_425 : lw_in (Cond.methodLink RX4 70 yX4_fail) := ⟨List.mem_of_getElem? (i := 764) (by decide +kernel), good_of_word (by decide +kernel)⟩
set_option maxRecDepth 100000 in
theorem dw_426 : lw_in (Cond.code yX4_readWave cX4_readWave 5 none) := ⟨List.mem_of_getElem? (i := 763) rfl, good_of_word (by decide +kernel)⟩
theorem dw_427 : lw_in (Cond.selects RX4 yX4_readWave yX4_readWave) := ⟨List.mem_of_getElem? (i := 19) (by decide +kernel), good_of_word (by decide +kernel)⟩
theorem dw_428 : lw_in (Cond.instanceMethod yX4_readWave) := ⟨List.mem_of_getElem? (i := 762) (by decide +kernel), good_of_word (by decide +kernel)⟩
theorem dw_429 : lw_in (Cond.methodLink RX4 84 yX4_readWave) := ⟨List.mem_of_getElem? (i := 760) (by decide +kernel), good_of_word (by decide +kernel)⟩
set_option maxRecDepth 100000 in
theorem dw_430 : lw_in (Cond.code yX4_readTell cX4_readTell 3 none) := ⟨List.mem_of_getElem? (i := 759) rfl, good_of_word (by decide +kernel)⟩
theorem dw_431 : lw_in (Cond.selects RX4 yX4_readTell yX4_readTell) := ⟨List.mem_of_getElem? (i := 18) (by decide +kernel), good_of_word (by decide +kernel)⟩
theorem dw_432 : lw_in (Cond.instanceMethod yX4_readTell) := ⟨List.mem_of_getElem? (i := 758) (by decide +kernel), good_of_word (by decide +kernel)⟩
theorem dw_433 : lw_in (Cond.methodLink RX4 57 yX4_readTell) := ⟨List.mem_of_getElem? (i := 756) (by decide +kernel), good_of_word (by decide +kernel)⟩
set_option maxRecDepth 100000 in
theorem dw_434 : lw_in (Cond.code yX4_isAt cX4_isAt 2 (some .boolean)) := ⟨List.mem_of_getElem? (i := 755) rfl, good_of_word (by decide +kernel)⟩
theorem dw_435 : lw_in (Cond.selects RX4 yX4_isAt yX4_isAt) := ⟨List.mem_of_getElem? (i := 17) (by decide +kernel), good_of_word (by decide +kernel)⟩
theorem dw_436 : lw_in (Cond.instanceMethod yX4_isAt) := ⟨List.mem_of_getElem? (i := 754) (by decide +kernel), good_of_word (by decide +kernel)⟩
theorem dw_437 : lw_in (Cond.methodLink RX4 53 yX4_isAt) := ⟨List.mem_of_getElem? (i := 752) (by decide +kernel), good_of_word (by decide +kernel)⟩
theorem dw_438 : lw_in (Cond.selects RX4 yX4_readSum yX4_readSum) := ⟨List.mem_of_getElem? (i := 28) (by decide +kernel), good_of_word (by decide +kernel)⟩
theorem dw_439 : lw_in (Cond.instanceMethod yX4_readSum) := ⟨List.mem_of_getElem? (i := 799) (by decide +kernel), good_of_word (by decide +kernel)⟩
theorem dw_440 : lw_in (Cond.methodLink RX4 131 yX4_readSum) := ⟨List.mem_of_getElem? (i := 797) (by decide +kernel), good_of_word (by decide +kernel)⟩
set_option maxRecDepth 100000 in
theorem dw_441 : lw_in (Cond.code yX4_readPart cX4_readPart 2 none) := ⟨List.mem_of_getElem? (i := 796) rfl, good_of_word (by decide +kernel)⟩
theorem dw_442 : lw_in (Cond.selects RX4 yX4_readPart yX4_readPart) := ⟨List.mem_of_getElem? (i := 27) (by decide +kernel), good_of_word (by decide +kernel)⟩
theorem dw_443 : lw_in (Cond.instanceMethod yX4_readPart) := ⟨List.mem_of_getElem? (i := 795) (by decide +kernel), good_of_word (by decide +kernel)⟩
theorem dw_444 : lw_in (Cond.methodLink RX4 128 yX4_readPart) := ⟨List.mem_of_getElem? (i := 793) (by decide +kernel), good_of_word (by decide +kernel)⟩
set_option maxRecDepth 100000 in
theorem dw_445 : lw_in (Cond.code yX4_readLaw cX4_readLaw 3 none) := ⟨List.mem_of_getElem? (i := 791) rfl, good_of_word (by decide +kernel)⟩
theorem dw_446 : lw_in (Cond.selects RX4 yX4_readLaw yX4_readLaw) := ⟨List.mem_of_getElem? (i := 26) (by decide +kernel), good_of_word (by decide +kernel)⟩
theorem dw_447 : lw_in (Cond.instanceMethod yX4_readLaw) := ⟨List.mem_of_getElem? (i := 790) (by decide +kernel), good_of_word (by decide +kernel)⟩
theorem dw_448 : lw_in (Cond.methodLink RX4 97 yX4_readLaw) := ⟨List.mem_of_getElem? (i := 788) (by decide +kernel), good_of_word (by decide +kernel)⟩
set_option maxRecDepth 100000 in
theorem dw_449 : lw_in (Cond.code yX4_isTold cX4_isTold 4 (some .boolean)) := ⟨List.mem_of_getElem? (i := 787) rfl, good_of_word (by decide +kernel)⟩
theorem dw_450 : lw_in (Cond.selects RX4 yX4_isTold yX4_isTold) := ⟨List.mem_of_getElem? (i := 25) (by decide +kernel), good_of_word (by decide +kernel)⟩
theorem dw_451 : lw_in (Cond.instanceMethod yX4_isTold) := ⟨List.mem_of_getElem? (i := 786) (by decide +kernel), good_of_word (by decide +kernel)⟩
theorem dw_452 : lw_in (Cond.methodLink RX4 109 yX4_isTold) := ⟨List.mem_of_getElem? (i := 784) (by decide +kernel), good_of_word (by decide +kernel)⟩
set_option maxRecDepth 100000 in
theorem dw_453 : lw_in (Cond.code yX4_readParty cX4_readParty 3 none) := ⟨List.mem_of_getElem? (i := 783) rfl, good_of_word (by decide +kernel)⟩
theorem dw_454 : lw_in (Cond.selects RX4 yX4_readParty yX4_readParty) := ⟨List.mem_of_getElem? (i := 24) (by decide +kernel), good_of_word (by decide +kernel)⟩
theorem dw_455 : lw_in (Cond.instanceMethod yX4_readParty) := ⟨List.mem_of_getElem? (i := 782) (by decide +kernel), good_of_word (by decide +kernel)⟩
theorem dw_456 : lw_in (Cond.methodLink RX4 87 yX4_readParty) := ⟨List.mem_of_getElem? (i := 780) (by decide +kernel), good_of_word (by decide +kernel)⟩
set_option maxRecDepth 100000 in
theorem dw_457 : lw_in (Cond.code yX4_failLater cX4_failLater 3 none) := ⟨List.mem_of_getElem? (i := 779) rfl, good_of_word (by decide +kernel)⟩
theorem dw_458 : lw_in (Cond.selects RX4 yX4_failLater yX4_failLater) := ⟨List.mem_of_getElem? (i := 23) (by decide +kernel), good_of_word (by decide +kernel)⟩
theorem dw_459 : lw_in (Cond.instanceMethod yX4_failLater) := ⟨List.mem_of_getElem? (i := 778) (by decide +kernel), good_of_word (by decide +kernel)⟩
theorem dw_460 : lw_in (Cond.methodLink RX4 77 yX4_failLater) := ⟨List.mem_of_getElem? (i := 776) (by decide +kernel), good_of_word (by decide +kernel)⟩
theorem dw_461 : lw_in (Cond.selects RX5 yX5_copyFrom yX5_copyFrom) := ⟨List.mem_of_getElem? (i := 34) (by decide +kernel), good_of_word (by decide +kernel)⟩
theorem dw_462 : lw_in (Cond.instanceMethod yX5_copyFrom) := ⟨List.mem_of_getElem? (i := 826) (by decide +kernel), good_of_word (by decide +kernel)⟩
set_option maxRecDepth 100000 in
theorem dw_463 : lw_in (Cond.code yX5_oddsAt cX5_oddsAt 3 (some .int)) := ⟨List.mem_of_getElem? (i := 823) rfl, good_of_word (by decide +kernel)⟩
theorem dw_464 : lw_in (Cond.selects RX5 yX5_oddsAt yX5_oddsAt) := ⟨List.mem_of_getElem? (i := 33) (by decide +kernel), good_of_word (by decide +kernel)⟩
theorem dw_465 : lw_in (Cond.instanceMethod yX5_oddsAt) := ⟨List.mem_of_getElem? (i := 822) (by decide +kernel), good_of_word (by decide +kernel)⟩
theorem dw_466 : lw_in (Cond.methodLink RX5 51 yX5_oddsAt) := ⟨List.mem_of_getElem? (i := 820) (by decide +kernel), good_of_word (by decide +kernel)⟩
set_option maxRecDepth 100000 in
theorem dw_467 : lw_in (Cond.code yX5_addUp cX5_addUp 3 none) := ⟨List.mem_of_getElem? (i := 819) rfl, good_of_word (by decide +kernel)⟩
theorem dw_468 : lw_in (Cond.selects RX5 yX5_addUp yX5_addUp) := ⟨List.mem_of_getElem? (i := 32) (by decide +kernel), good_of_word (by decide +kernel)⟩
theorem dw_469 : lw_in (Cond.instanceMethod yX5_addUp) := ⟨List.mem_of_getElem? (i := 818) (by decide +kernel), good_of_word (by decide +kernel)⟩
set_option maxRecDepth 100000 in
theorem dw_470 : lw_in (Cond.code yX4_readUnit cX4_readUnit 4 none) := ⟨List.mem_of_getElem? (i := 808) rfl, good_of_word (by decide +kernel)⟩
theorem dw_471 : lw_in (Cond.selects RX4 yX4_readUnit yX4_readUnit) := ⟨List.mem_of_getElem? (i := 30) (by decide +kernel), good_of_word (by decide +kernel)⟩
theorem dw_472 : lw_in (Cond.instanceMethod yX4_readUnit) := ⟨List.mem_of_getElem? (i := 807) (by decide +kernel), good_of_word (by decide +kernel)⟩
theorem dw_473 : lw_in (Cond.methodLink RX4 143 yX4_readUnit) := ⟨List.mem_of_getElem? (i := 805) (by decide +kernel), good_of_word (by decide +kernel)⟩
set_option maxRecDepth 100000 in
theorem dw_474 : lw_in (Cond.code yX4_readProduct cX4_readProduct 4 none) := ⟨List.mem_of_getElem? (i := 804) rfl, good_of_word (by decide +kernel)⟩
set_option maxRecDepth 100000 in
theorem dw_475 : lw_in (Cond.code yX1_putSign cX1_putSign 2 none) := ⟨List.mem_of_getElem? (i := 814) rfl, good_of_word (by decide +kernel)⟩
theorem dw_476 : lw_in (Cond.selects RX1 yX1_putSign yX1_putSign) := ⟨List.mem_of_getElem? (i := 31) (by decide +kernel), good_of_word (by decide +kernel)⟩
theorem dw_477 : lw_in (Cond.instanceMethod yX1_putSign) := ⟨List.mem_of_getElem? (i := 813) (by decide +kernel), good_of_word (by decide +kernel)⟩
theorem dw_478 : lw_in (Cond.selects RX4 yX4_readProduct yX4_readProduct) := ⟨List.mem_of_getElem? (i := 29) (by decide +kernel), good_of_word (by decide +kernel)⟩
theorem dw_479 : lw_in (Cond.instanceMethod yX4_readProduct) := ⟨List.mem_of_getElem? (i := 803) (by decide +kernel), good_of_word (by decide +kernel)⟩
theorem dw_480 : lw_in (Cond.methodLink RX4 137 yX4_readProduct) := ⟨List.mem_of_getElem? (i := 801) (by decide +kernel), good_of_word (by decide +kernel)⟩
set_option maxRecDepth 100000 in
theorem dw_481 : lw_in (Cond.code yX4_readSum cX4_readSum 4 none) := ⟨List.mem_of_getElem? (i := 800) rfl, good_of_word (by decide +kernel)⟩
theorem dw_482 : lw_in (Cond.methodLink RX1 51 arraycopyName) := ⟨List.mem_of_getElem? (i := 835) (by decide +kernel), good_of_word (by decide +kernel)⟩
set_option maxRecDepth 100000 in
theorem dw_483 : lw_in (Cond.code yX1_copyFrom cX1_copyFrom 2 none) := ⟨List.mem_of_getElem? (i := 834) rfl, good_of_word (by decide +kernel)⟩
theorem dw_484 : lw_in (Cond.selects RX1 yX1_copyFrom yX1_copyFrom) := ⟨List.mem_of_getElem? (i := 35) (by decide +kernel), good_of_word (by decide +kernel)⟩
theorem dw_485 : lw_in (Cond.instanceMethod yX1_copyFrom) := ⟨List.mem_of_getElem? (i := 833) (by decide +kernel), good_of_word (by decide +kernel)⟩
theorem dw_486 : lw_in (Cond.initialized "java/lang/System") := ⟨List.mem_of_getElem? (i := 188) (by decide +kernel), good_of_word (by decide +kernel)⟩
theorem dw_487 : lw_in (Cond.static arraycopyName) := ⟨List.mem_of_getElem? (i := 829) (by decide +kernel), good_of_word (by decide +kernel)⟩
theorem dw_488 : lw_in (Cond.native arraycopyName) := ⟨List.mem_of_getElem? (i := 830) (by decide +kernel), good_of_word (by decide +kernel)⟩
theorem dw_489 : lw_in (Cond.methodLink RX5 55 arraycopyName) := ⟨List.mem_of_getElem? (i := 828) (by decide +kernel), good_of_word (by decide +kernel)⟩
set_option maxRecDepth 100000 in
theorem dw_490 : lw_in (Cond.code yX5_copyFrom cX5_copyFrom 2 none) := ⟨List.mem_of_getElem? (i := 827) rfl, good_of_word (by decide +kernel)⟩
theorem dw_491 : lw_in (Cond.fieldLink RX3 25 "GuessFerry$Past" "size" "I") := ⟨List.mem_of_getElem? (i := 516) (by decide +kernel), good_of_word (by decide +kernel)⟩
set_option maxRecDepth 100000 in
theorem dw_492 : lw_in (Cond.code yX3_forgetAll cX3_forgetAll 2 none) := ⟨List.mem_of_getElem? (i := 839) rfl, good_of_word (by decide +kernel)⟩
theorem dw_493 : lw_in (Cond.selects RX3 yX3_forgetAll yX3_forgetAll) := ⟨List.mem_of_getElem? (i := 36) (by decide +kernel), good_of_word (by decide +kernel)⟩
theorem dw_494 : lw_in (Cond.instanceMethod yX3_forgetAll) := ⟨List.mem_of_getElem? (i := 838) (by decide +kernel), good_of_word (by decide +kernel)⟩
theorem dw_495 : lw_in (Cond.selects RX10 yX10_read yX10_read) := ⟨List.mem_of_getElem? (i := 653) (by decide +kernel), good_of_word (by decide +kernel)⟩
theorem dw_496 : lw_in (Cond.instanceMethod yX10_read) := ⟨List.mem_of_getElem? (i := 652) (by decide +kernel), good_of_word (by decide +kernel)⟩
theorem dw_497 : lw_in (Cond.methodLink R_law 23 yX10_read) := ⟨List.mem_of_getElem? (i := 651) (by decide +kernel), good_of_word (by decide +kernel)⟩
set_option maxRecDepth 100000 in
theorem dw_498 : lw_in (Cond.code yX11_read cX11_read 2 (some .int)) := ⟨List.mem_of_getElem? (i := 1553) rfl, good_of_word (by decide +kernel)⟩
theorem dw_499 : lw_in (Cond.fieldLink RX11 163 "GuessFerryModel" "tokens" "I") := ⟨List.mem_of_getElem? (i := 1373) (by decide +kernel), good_of_word (by decide +kernel)⟩
