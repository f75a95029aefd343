set_option maxRecDepth 100000 in
theorem dw_500 : lw_in (Cond.code yX0_mayBe cX0_mayBe 3 (some .int)) := ⟨lw_t (tm_3 (List.mem_of_getElem? (i := 207) rfl)), good_of_word (by decide +kernel)⟩
theorem dw_501 : lw_in (Cond.fieldLink RX0 9 "GuessFerry$Crossing" "sound" "LGuessFerry$Sound;") := ⟨lw_t (tm_2 (List.mem_of_getElem? (i := 128) rfl)), good_of_word (by decide +kernel)⟩
set_option maxRecDepth 100000 in
theorem dw_502 : lw_in (Cond.code yX0_thereNow cX0_thereNow 3 (some .int)) := ⟨lw_t (tm_3 (List.mem_of_getElem? (i := 211) rfl)), good_of_word (by decide +kernel)⟩
theorem dw_503 : lw_in (Cond.selects RX5 yX5_thingThere yX5_thingThere) := ⟨List.mem_of_getElem? (i := 40) rfl, good_of_word (by decide +kernel)⟩
theorem dw_504 : lw_in (Cond.instanceMethod yX5_thingThere) := ⟨lw_t (tm_3 (List.mem_of_getElem? (i := 214) rfl)), good_of_word (by decide +kernel)⟩
set_option maxRecDepth 100000 in
theorem dw_505 : lw_in (Cond.code yX5_thingThere cX5_thingThere 7 (some .int)) := ⟨lw_t (tm_3 (List.mem_of_getElem? (i := 215) rfl)), good_of_word (by decide +kernel)⟩
theorem dw_506 : lw_in (Cond.static yX10_lot) := ⟨lw_t (tm_3 (List.mem_of_getElem? (i := 217) rfl)), good_of_word (by decide +kernel)⟩
set_option maxRecDepth 100000 in
theorem dw_507 : lw_in (Cond.code yX10_lot cX10_lot 4 (some .int)) := ⟨lw_t (tm_3 (List.mem_of_getElem? (i := 218) rfl)), good_of_word (by decide +kernel)⟩
theorem dw_508 : lw_in (Cond.static yX10_stirred) := ⟨lw_t (tm_3 (List.mem_of_getElem? (i := 220) rfl)), good_of_word (by decide +kernel)⟩
theorem dw_509 : lw_in (Cond.methodLink RX10 322 yX10_stirred) := ⟨lw_t (tm_3 (List.mem_of_getElem? (i := 219) rfl)), good_of_word (by decide +kernel)⟩
set_option maxRecDepth 100000 in
theorem dw_510 : lw_in (Cond.code yX10_stirred cX10_stirred 3 (some .int)) := ⟨lw_t (tm_3 (List.mem_of_getElem? (i := 221) rfl)), good_of_word (by decide +kernel)⟩
theorem dw_511 : lw_in (Cond.constant RX10 325 (1103515245)) := ⟨lw_t (tm_3 (List.mem_of_getElem? (i := 222) rfl)), good_of_word (by decide +kernel)⟩
set_option maxRecDepth 100000 in
theorem dw_512 : lw_in (Cond.code yX0_shiftsOf cX0_shiftsOf 3 (some .int)) := ⟨lw_t (tm_3 (List.mem_of_getElem? (i := 226) rfl)), good_of_word (by decide +kernel)⟩
theorem dw_513 : lw_in (Cond.static yX10_heldTo) := ⟨lw_t (tm_4 (List.mem_of_getElem? (i := 16) rfl)), good_of_word (by decide +kernel)⟩
theorem dw_514 : lw_in (Cond.selects RX1 yX1_valueOf yX1_valueOf) := ⟨List.mem_of_getElem? (i := 44) rfl, good_of_word (by decide +kernel)⟩
theorem dw_515 : lw_in (Cond.instanceMethod yX1_valueOf) := ⟨lw_t (tm_4 (List.mem_of_getElem? (i := 5) rfl)), good_of_word (by decide +kernel)⟩
theorem dw_516 : lw_in (Cond.selects RX0 yX0_setWave yX0_setWave) := ⟨List.mem_of_getElem? (i := 43) rfl, good_of_word (by decide +kernel)⟩
theorem dw_517 : lw_in (Cond.instanceMethod yX0_setWave) := ⟨lw_t (tm_3 (List.mem_of_getElem? (i := 234) rfl)), good_of_word (by decide +kernel)⟩
theorem dw_518 : lw_in (Cond.methodLink RX0 89 yX0_setWave) := ⟨lw_t (tm_3 (List.mem_of_getElem? (i := 232) rfl)), good_of_word (by decide +kernel)⟩
theorem dw_519 : lw_in (Cond.selects RX0 yX0_clearVars yX0_clearVars) := ⟨List.mem_of_getElem? (i := 42) rfl, good_of_word (by decide +kernel)⟩
theorem dw_520 : lw_in (Cond.instanceMethod yX0_clearVars) := ⟨lw_t (tm_3 (List.mem_of_getElem? (i := 229) rfl)), good_of_word (by decide +kernel)⟩
theorem dw_521 : lw_in (Cond.methodLink RX0 81 yX0_clearVars) := ⟨lw_t (tm_3 (List.mem_of_getElem? (i := 227) rfl)), good_of_word (by decide +kernel)⟩
set_option maxRecDepth 100000 in
theorem dw_522 : lw_in (Cond.code yX0_clearVars cX0_clearVars 2 none) := ⟨lw_t (tm_3 (List.mem_of_getElem? (i := 230) rfl)), good_of_word (by decide +kernel)⟩
theorem dw_523 : lw_in (Cond.methodLink RX0 53 yJ7_fill_53178) := ⟨lw_t (tm_3 (List.mem_of_getElem? (i := 231) rfl)), good_of_word (by decide +kernel)⟩
theorem dw_524 : lw_in (Cond.fieldLink RX0 27 "GuessFerry$Crossing" "vars" "[I") := ⟨lw_t (tm_2 (List.mem_of_getElem? (i := 129) rfl)), good_of_word (by decide +kernel)⟩
set_option maxRecDepth 100000 in
theorem dw_525 : lw_in (Cond.code yX0_setWave cX0_setWave 3 none) := ⟨lw_t (tm_3 (List.mem_of_getElem? (i := 235) rfl)), good_of_word (by decide +kernel)⟩
theorem dw_526 : lw_in (Cond.initialized RJ6) := ⟨lw_t (tm_1 (List.mem_of_getElem? (i := 21) rfl)), good_of_word (by decide +kernel)⟩
theorem dw_527 : lw_in (Cond.static yJ6_bitCount_0f7a4) := ⟨lw_t (tm_3 (List.mem_of_getElem? (i := 238) rfl)), good_of_word (by decide +kernel)⟩
theorem dw_528 : lw_in (Cond.methodLink RX0 75 yJ6_bitCount_0f7a4) := ⟨lw_t (tm_3 (List.mem_of_getElem? (i := 237) rfl)), good_of_word (by decide +kernel)⟩
theorem dw_529 : lw_in (Cond.methodLink RX0 71 yX0_mayBe) := ⟨lw_t (tm_3 (List.mem_of_getElem? (i := 236) rfl)), good_of_word (by decide +kernel)⟩
set_option maxRecDepth 100000 in
theorem dw_530 : lw_in (Cond.code yJ6_bitCount_0f7a4 cJ6_bitCount_0f7a4 1 (some .int)) := ⟨lw_t (tm_3 (List.mem_of_getElem? (i := 239) rfl)), good_of_word (by decide +kernel)⟩
theorem dw_531 : lw_in (Cond.constant RJ6 267 (252645135)) := ⟨lw_t (tm_4 (List.mem_of_getElem? (i := 2) rfl)), good_of_word (by decide +kernel)⟩
theorem dw_532 : lw_in (Cond.constant RJ6 266 (858993459)) := ⟨lw_t (tm_4 (List.mem_of_getElem? (i := 1) rfl)), good_of_word (by decide +kernel)⟩
theorem dw_533 : lw_in (Cond.constant RJ6 265 (1431655765)) := ⟨lw_t (tm_4 (List.mem_of_getElem? (i := 0) rfl)), good_of_word (by decide +kernel)⟩
set_option maxRecDepth 100000 in
theorem dw_534 : lw_in (Cond.code yX1_valueOf cX1_valueOf 7 (some .int)) := ⟨lw_t (tm_4 (List.mem_of_getElem? (i := 6) rfl)), good_of_word (by decide +kernel)⟩
theorem dw_535 : lw_in (Cond.selects RX1 yX1_partValue yX1_partValue) := ⟨List.mem_of_getElem? (i := 45) rfl, good_of_word (by decide +kernel)⟩
theorem dw_536 : lw_in (Cond.instanceMethod yX1_partValue) := ⟨lw_t (tm_4 (List.mem_of_getElem? (i := 9) rfl)), good_of_word (by decide +kernel)⟩
theorem dw_537 : lw_in (Cond.methodLink RX1 67 yX1_partValue) := ⟨lw_t (tm_4 (List.mem_of_getElem? (i := 7) rfl)), good_of_word (by decide +kernel)⟩
theorem dw_538 : lw_in (Cond.fieldLink RX1 63 "GuessFerry$Laws" "isByZero" "Z") := ⟨lw_t (tm_1 (List.mem_of_getElem? (i := 67) rfl)), good_of_word (by decide +kernel)⟩
set_option maxRecDepth 100000 in
theorem dw_539 : lw_in (Cond.code yX1_partValue cX1_partValue 8 (some .int)) := ⟨lw_t (tm_4 (List.mem_of_getElem? (i := 10) rfl)), good_of_word (by decide +kernel)⟩
theorem dw_540 : lw_in (Cond.selects RX1 yX1_joined yX1_joined) := ⟨List.mem_of_getElem? (i := 46) rfl, good_of_word (by decide +kernel)⟩
theorem dw_541 : lw_in (Cond.instanceMethod yX1_joined) := ⟨lw_t (tm_4 (List.mem_of_getElem? (i := 13) rfl)), good_of_word (by decide +kernel)⟩
theorem dw_542 : lw_in (Cond.methodLink RX1 71 yX1_joined) := ⟨lw_t (tm_4 (List.mem_of_getElem? (i := 11) rfl)), good_of_word (by decide +kernel)⟩
theorem dw_543 : lw_in (Cond.fieldLink RX1 28 "GuessFerry$Laws" "vars" "[I") := ⟨lw_t (tm_1 (List.mem_of_getElem? (i := 63) rfl)), good_of_word (by decide +kernel)⟩
theorem dw_544 : lw_in (Cond.fieldLink RX1 31 "GuessFerry$Laws" "stack" "[I") := ⟨lw_t (tm_1 (List.mem_of_getElem? (i := 64) rfl)), good_of_word (by decide +kernel)⟩
set_option maxRecDepth 100000 in
theorem dw_545 : lw_in (Cond.code yX1_joined cX1_joined 4 (some .int)) := ⟨lw_t (tm_4 (List.mem_of_getElem? (i := 14) rfl)), good_of_word (by decide +kernel)⟩
set_option maxRecDepth 100000 in
theorem dw_546 : lw_in (Cond.code yX10_heldTo cX10_heldTo 2 (some .int)) := ⟨lw_t (tm_4 (List.mem_of_getElem? (i := 17) rfl)), good_of_word (by decide +kernel)⟩
theorem dw_547 : lw_in (Cond.methodLink RX10 319 Lib.Math.max.name) := ⟨lw_t (tm_4 (List.mem_of_getElem? (i := 19) rfl)), good_of_word (by decide +kernel)⟩
theorem dw_548 : lw_in (Cond.methodLink RX10 314 Lib.Math.min.name) := ⟨lw_t (tm_4 (List.mem_of_getElem? (i := 18) rfl)), good_of_word (by decide +kernel)⟩
theorem dw_549 : lw_in (Cond.selects RX10 yX10_wave yX10_wave) := ⟨lw_t (tm_3 (List.mem_of_getElem? (i := 198) rfl)), good_of_word (by decide +kernel)⟩
theorem dw_550 : lw_in (Cond.instanceMethod yX10_wave) := ⟨lw_t (tm_3 (List.mem_of_getElem? (i := 197) rfl)), good_of_word (by decide +kernel)⟩
theorem dw_551 : lw_in (Cond.methodLink R_law 32 yX10_wave) := ⟨lw_t (tm_3 (List.mem_of_getElem? (i := 196) rfl)), good_of_word (by decide +kernel)⟩
set_option maxRecDepth 100000 in
theorem dw_552 : lw_in (Cond.code yX11_wave cX11_wave 3 (some .int)) := ⟨lw_t (tm_7 (List.mem_of_getElem? (i := 39) rfl)), good_of_word (by decide +kernel)⟩
theorem dw_553 : lw_in (Cond.selects RX11 yX11_shiftsOf yX11_shiftsOf) := ⟨List.mem_of_getElem? (i := 131) rfl, good_of_word (by decide +kernel)⟩
theorem dw_554 : lw_in (Cond.instanceMethod yX11_shiftsOf) := ⟨lw_t (tm_7 (List.mem_of_getElem? (i := 73) rfl)), good_of_word (by decide +kernel)⟩
theorem dw_555 : lw_in (Cond.methodLink RX11 343 yX11_shiftsOf) := ⟨lw_t (tm_7 (List.mem_of_getElem? (i := 71) rfl)), good_of_word (by decide +kernel)⟩
theorem dw_556 : lw_in (Cond.selects RX11 yX11_thereAt yX11_thereAt) := ⟨List.mem_of_getElem? (i := 129) rfl, good_of_word (by decide +kernel)⟩
theorem dw_557 : lw_in (Cond.instanceMethod yX11_thereAt) := ⟨lw_t (tm_7 (List.mem_of_getElem? (i := 61) rfl)), good_of_word (by decide +kernel)⟩
theorem dw_558 : lw_in (Cond.methodLink RX11 303 yX11_thereAt) := ⟨lw_t (tm_7 (List.mem_of_getElem? (i := 59) rfl)), good_of_word (by decide +kernel)⟩
theorem dw_559 : lw_in (Cond.selects RX11 yX11_mayAt yX11_mayAt) := ⟨List.mem_of_getElem? (i := 127) rfl, good_of_word (by decide +kernel)⟩
theorem dw_560 : lw_in (Cond.instanceMethod yX11_mayAt) := ⟨lw_t (tm_7 (List.mem_of_getElem? (i := 53) rfl)), good_of_word (by decide +kernel)⟩
theorem dw_561 : lw_in (Cond.methodLink RX11 309 yX11_mayAt) := ⟨lw_t (tm_7 (List.mem_of_getElem? (i := 51) rfl)), good_of_word (by decide +kernel)⟩
theorem dw_562 : lw_in (Cond.selects RX11 yX11_copies yX11_copies) := ⟨List.mem_of_getElem? (i := 126) rfl, good_of_word (by decide +kernel)⟩
theorem dw_563 : lw_in (Cond.instanceMethod yX11_copies) := ⟨lw_t (tm_7 (List.mem_of_getElem? (i := 49) rfl)), good_of_word (by decide +kernel)⟩
theorem dw_564 : lw_in (Cond.methodLink RX11 352 yX11_copies) := ⟨lw_t (tm_7 (List.mem_of_getElem? (i := 47) rfl)), good_of_word (by decide +kernel)⟩
theorem dw_565 : lw_in (Cond.selects RX11 yX11_isWave yX11_isWave) := ⟨List.mem_of_getElem? (i := 125) rfl, good_of_word (by decide +kernel)⟩
theorem dw_566 : lw_in (Cond.instanceMethod yX11_isWave) := ⟨lw_t (tm_7 (List.mem_of_getElem? (i := 42) rfl)), good_of_word (by decide +kernel)⟩
theorem dw_567 : lw_in (Cond.methodLink RX11 349 yX11_isWave) := ⟨lw_t (tm_7 (List.mem_of_getElem? (i := 40) rfl)), good_of_word (by decide +kernel)⟩
set_option maxRecDepth 100000 in
theorem dw_568 : lw_in (Cond.code yX11_isWave cX11_isWave 2 (some .boolean)) := ⟨lw_t (tm_7 (List.mem_of_getElem? (i := 43) rfl)), good_of_word (by decide +kernel)⟩
theorem dw_569 : lw_in (Cond.static yX11_in) := ⟨lw_t (tm_7 (List.mem_of_getElem? (i := 45) rfl)), good_of_word (by decide +kernel)⟩
theorem dw_570 : lw_in (Cond.methodLink RX11 281 yX11_in) := ⟨lw_t (tm_7 (List.mem_of_getElem? (i := 44) rfl)), good_of_word (by decide +kernel)⟩
set_option maxRecDepth 100000 in
theorem dw_571 : lw_in (Cond.code yX11_in cX11_in 3 (some .boolean)) := ⟨lw_t (tm_7 (List.mem_of_getElem? (i := 46) rfl)), good_of_word (by decide +kernel)⟩
set_option maxRecDepth 100000 in
theorem dw_572 : lw_in (Cond.code yX11_copies cX11_copies 2 none) := ⟨lw_t (tm_7 (List.mem_of_getElem? (i := 50) rfl)), good_of_word (by decide +kernel)⟩
set_option maxRecDepth 100000 in
theorem dw_573 : lw_in (Cond.code yX11_mayAt cX11_mayAt 4 (some .int)) := ⟨lw_t (tm_7 (List.mem_of_getElem? (i := 54) rfl)), good_of_word (by decide +kernel)⟩
theorem dw_574 : lw_in (Cond.selects RX11 yX11_oddsAt yX11_oddsAt) := ⟨List.mem_of_getElem? (i := 128) rfl, good_of_word (by decide +kernel)⟩
theorem dw_575 : lw_in (Cond.instanceMethod yX11_oddsAt) := ⟨lw_t (tm_7 (List.mem_of_getElem? (i := 57) rfl)), good_of_word (by decide +kernel)⟩
theorem dw_576 : lw_in (Cond.methodLink RX11 297 yX11_oddsAt) := ⟨lw_t (tm_7 (List.mem_of_getElem? (i := 55) rfl)), good_of_word (by decide +kernel)⟩
set_option maxRecDepth 100000 in
theorem dw_577 : lw_in (Cond.code yX11_oddsAt cX11_oddsAt 3 (some .int)) := ⟨lw_t (tm_7 (List.mem_of_getElem? (i := 58) rfl)), good_of_word (by decide +kernel)⟩
set_option maxRecDepth 100000 in
theorem dw_578 : lw_in (Cond.code yX11_thereAt cX11_thereAt 5 (some .int)) := ⟨lw_t (tm_7 (List.mem_of_getElem? (i := 62) rfl)), good_of_word (by decide +kernel)⟩
theorem dw_579 : lw_in (Cond.selects RX11 yX11_lotOf yX11_lotOf) := ⟨List.mem_of_getElem? (i := 130) rfl, good_of_word (by decide +kernel)⟩
theorem dw_580 : lw_in (Cond.instanceMethod yX11_lotOf) := ⟨lw_t (tm_7 (List.mem_of_getElem? (i := 65) rfl)), good_of_word (by decide +kernel)⟩
theorem dw_581 : lw_in (Cond.methodLink RX11 300 yX11_lotOf) := ⟨lw_t (tm_7 (List.mem_of_getElem? (i := 63) rfl)), good_of_word (by decide +kernel)⟩
set_option maxRecDepth 100000 in
theorem dw_582 : lw_in (Cond.code yX11_lotOf cX11_lotOf 3 (some .int)) := ⟨lw_t (tm_7 (List.mem_of_getElem? (i := 66) rfl)), good_of_word (by decide +kernel)⟩
theorem dw_583 : lw_in (Cond.static yX11_mixed) := ⟨lw_t (tm_7 (List.mem_of_getElem? (i := 68) rfl)), good_of_word (by decide +kernel)⟩
theorem dw_584 : lw_in (Cond.methodLink RX11 293 yX11_mixed) := ⟨lw_t (tm_7 (List.mem_of_getElem? (i := 67) rfl)), good_of_word (by decide +kernel)⟩
set_option maxRecDepth 100000 in
theorem dw_585 : lw_in (Cond.code yX11_mixed cX11_mixed 3 (some .int)) := ⟨lw_t (tm_7 (List.mem_of_getElem? (i := 69) rfl)), good_of_word (by decide +kernel)⟩
theorem dw_586 : lw_in (Cond.constant RX11 292 (1103515245)) := ⟨lw_t (tm_7 (List.mem_of_getElem? (i := 70) rfl)), good_of_word (by decide +kernel)⟩
set_option maxRecDepth 100000 in
theorem dw_587 : lw_in (Cond.code yX11_shiftsOf cX11_shiftsOf 2 (some .int)) := ⟨lw_t (tm_7 (List.mem_of_getElem? (i := 74) rfl)), good_of_word (by decide +kernel)⟩
theorem dw_588 : lw_in (Cond.static yX11_within) := ⟨lw_t (tm_7 (List.mem_of_getElem? (i := 95) rfl)), good_of_word (by decide +kernel)⟩
theorem dw_589 : lw_in (Cond.methodLink RX11 324 yX11_within) := ⟨lw_t (tm_7 (List.mem_of_getElem? (i := 94) rfl)), good_of_word (by decide +kernel)⟩
theorem dw_590 : lw_in (Cond.selects RX11 yX11_lawTells yX11_lawTells) := ⟨List.mem_of_getElem? (i := 134) rfl, good_of_word (by decide +kernel)⟩
theorem dw_591 : lw_in (Cond.instanceMethod yX11_lawTells) := ⟨lw_t (tm_7 (List.mem_of_getElem? (i := 88) rfl)), good_of_word (by decide +kernel)⟩
theorem dw_592 : lw_in (Cond.methodLink RX11 321 yX11_lawTells) := ⟨lw_t (tm_7 (List.mem_of_getElem? (i := 86) rfl)), good_of_word (by decide +kernel)⟩
theorem dw_593 : lw_in (Cond.selects RX11 yX11_looksOver yX11_looksOver) := ⟨List.mem_of_getElem? (i := 133) rfl, good_of_word (by decide +kernel)⟩
theorem dw_594 : lw_in (Cond.instanceMethod yX11_looksOver) := ⟨lw_t (tm_7 (List.mem_of_getElem? (i := 81) rfl)), good_of_word (by decide +kernel)⟩
theorem dw_595 : lw_in (Cond.methodLink RX11 318 yX11_looksOver) := ⟨lw_t (tm_7 (List.mem_of_getElem? (i := 79) rfl)), good_of_word (by decide +kernel)⟩
theorem dw_596 : lw_in (Cond.selects RX11 yX11_looks yX11_looks) := ⟨List.mem_of_getElem? (i := 132) rfl, good_of_word (by decide +kernel)⟩
theorem dw_597 : lw_in (Cond.instanceMethod yX11_looks) := ⟨lw_t (tm_7 (List.mem_of_getElem? (i := 77) rfl)), good_of_word (by decide +kernel)⟩
theorem dw_598 : lw_in (Cond.methodLink RX11 315 yX11_looks) := ⟨lw_t (tm_7 (List.mem_of_getElem? (i := 75) rfl)), good_of_word (by decide +kernel)⟩
set_option maxRecDepth 100000 in
theorem dw_599 : lw_in (Cond.code yX11_looks cX11_looks 3 none) := ⟨lw_t (tm_7 (List.mem_of_getElem? (i := 78) rfl)), good_of_word (by decide +kernel)⟩
theorem dw_600 : lw_in (Cond.fieldLink RX11 92 "GuessFerryModel" "variables" "[I") := ⟨lw_t (tm_6 (List.mem_of_getElem? (i := 35) rfl)), good_of_word (by decide +kernel)⟩
set_option maxRecDepth 100000 in
theorem dw_601 : lw_in (Cond.code yX11_looksOver cX11_looksOver 2 none) := ⟨lw_t (tm_7 (List.mem_of_getElem? (i := 82) rfl)), good_of_word (by decide +kernel)⟩
theorem dw_602 : lw_in (Cond.static yX11_bits) := ⟨lw_t (tm_7 (List.mem_of_getElem? (i := 84) rfl)), good_of_word (by decide +kernel)⟩
theorem dw_603 : lw_in (Cond.methodLink RX11 312 yX11_bits) := ⟨lw_t (tm_7 (List.mem_of_getElem? (i := 83) rfl)), good_of_word (by decide +kernel)⟩
set_option maxRecDepth 100000 in
theorem dw_604 : lw_in (Cond.code yX11_bits cX11_bits 3 (some .int)) := ⟨lw_t (tm_7 (List.mem_of_getElem? (i := 85) rfl)), good_of_word (by decide +kernel)⟩
set_option maxRecDepth 100000 in
theorem dw_605 : lw_in (Cond.code yX11_lawTells cX11_lawTells 7 (some .int)) := ⟨lw_t (tm_7 (List.mem_of_getElem? (i := 89) rfl)), good_of_word (by decide +kernel)⟩
theorem dw_606 : lw_in (Cond.selects RX11 yX11_termOf yX11_termOf) := ⟨List.mem_of_getElem? (i := 135) rfl, good_of_word (by decide +kernel)⟩
theorem dw_607 : lw_in (Cond.instanceMethod yX11_termOf) := ⟨lw_t (tm_7 (List.mem_of_getElem? (i := 92) rfl)), good_of_word (by decide +kernel)⟩
theorem dw_608 : lw_in (Cond.methodLink RX11 306 yX11_termOf) := ⟨lw_t (tm_7 (List.mem_of_getElem? (i := 90) rfl)), good_of_word (by decide +kernel)⟩
theorem dw_609 : lw_in (Cond.fieldLink RX11 277 "GuessFerryModel" "isBroken" "Z") := ⟨lw_t (tm_6 (List.mem_of_getElem? (i := 37) rfl)), good_of_word (by decide +kernel)⟩
set_option maxRecDepth 100000 in
theorem dw_610 : lw_in (Cond.code yX11_termOf cX11_termOf 8 (some .int)) := ⟨lw_t (tm_7 (List.mem_of_getElem? (i := 93) rfl)), good_of_word (by decide +kernel)⟩
theorem dw_611 : lw_in (Cond.fieldLink RX11 95 "GuessFerryModel" "pile" "[I") := ⟨lw_t (tm_6 (List.mem_of_getElem? (i := 36) rfl)), good_of_word (by decide +kernel)⟩
set_option maxRecDepth 100000 in
theorem dw_612 : lw_in (Cond.code yX11_within cX11_within 3 (some .int)) := ⟨lw_t (tm_7 (List.mem_of_getElem? (i := 96) rfl)), good_of_word (by decide +kernel)⟩
theorem dw_613 : lw_in (Cond.selects RX11 yX11_wave yX11_wave) := ⟨lw_t (tm_7 (List.mem_of_getElem? (i := 38) rfl)), good_of_word (by decide +kernel)⟩
theorem dw_614 : lw_in (Cond.instanceMethod yX11_wave) := ⟨lw_t (tm_7 (List.mem_of_getElem? (i := 37) rfl)), good_of_word (by decide +kernel)⟩
theorem dw_615 : lw_in (Cond.methodLink R_law 36 yX11_wave) := ⟨lw_t (tm_7 (List.mem_of_getElem? (i := 36) rfl)), good_of_word (by decide +kernel)⟩
set_option maxRecDepth 100000 in
theorem dw_616 : lw_in (Cond.code yX10_odds cX10_odds 3 (some .int)) := ⟨lw_t (tm_4 (List.mem_of_getElem? (i := 23) rfl)), good_of_word (by decide +kernel)⟩
theorem dw_617 : lw_in (Cond.static yX10_isThing) := ⟨lw_t (tm_4 (List.mem_of_getElem? (i := 25) rfl)), good_of_word (by decide +kernel)⟩
theorem dw_618 : lw_in (Cond.methodLink RX10 131 yX10_isThing) := ⟨lw_t (tm_4 (List.mem_of_getElem? (i := 24) rfl)), good_of_word (by decide +kernel)⟩
set_option maxRecDepth 100000 in
theorem dw_619 : lw_in (Cond.code yX10_isThing cX10_isThing 1 (some .boolean)) := ⟨lw_t (tm_4 (List.mem_of_getElem? (i := 26) rfl)), good_of_word (by decide +kernel)⟩
theorem dw_620 : lw_in (Cond.selects RX10 yX10_odds yX10_odds) := ⟨lw_t (tm_4 (List.mem_of_getElem? (i := 22) rfl)), good_of_word (by decide +kernel)⟩
theorem dw_621 : lw_in (Cond.instanceMethod yX10_odds) := ⟨lw_t (tm_4 (List.mem_of_getElem? (i := 21) rfl)), good_of_word (by decide +kernel)⟩
theorem dw_622 : lw_in (Cond.methodLink R_law 37 yX10_odds) := ⟨lw_t (tm_4 (List.mem_of_getElem? (i := 20) rfl)), good_of_word (by decide +kernel)⟩
set_option maxRecDepth 100000 in
theorem dw_623 : lw_in (Cond.code yX11_odds cX11_odds 3 (some .int)) := ⟨lw_t (tm_7 (List.mem_of_getElem? (i := 100) rfl)), good_of_word (by decide +kernel)⟩
theorem dw_624 : lw_in (Cond.static yX11_isThing) := ⟨lw_t (tm_7 (List.mem_of_getElem? (i := 102) rfl)), good_of_word (by decide +kernel)⟩
theorem dw_625 : lw_in (Cond.methodLink RX11 355 yX11_isThing) := ⟨lw_t (tm_7 (List.mem_of_getElem? (i := 101) rfl)), good_of_word (by decide +kernel)⟩
set_option maxRecDepth 100000 in
theorem dw_626 : lw_in (Cond.code yX11_isThing cX11_isThing 1 (some .boolean)) := ⟨lw_t (tm_7 (List.mem_of_getElem? (i := 103) rfl)), good_of_word (by decide +kernel)⟩
theorem dw_627 : lw_in (Cond.selects RX11 yX11_odds yX11_odds) := ⟨lw_t (tm_7 (List.mem_of_getElem? (i := 99) rfl)), good_of_word (by decide +kernel)⟩
theorem dw_628 : lw_in (Cond.instanceMethod yX11_odds) := ⟨lw_t (tm_7 (List.mem_of_getElem? (i := 98) rfl)), good_of_word (by decide +kernel)⟩
theorem dw_629 : lw_in (Cond.methodLink R_law 40 yX11_odds) := ⟨lw_t (tm_7 (List.mem_of_getElem? (i := 97) rfl)), good_of_word (by decide +kernel)⟩
set_option maxRecDepth 100000 in
theorem dw_630 : lw_in (Cond.code yX10_party cX10_party 3 (some .int)) := ⟨lw_t (tm_4 (List.mem_of_getElem? (i := 31) rfl)), good_of_word (by decide +kernel)⟩
theorem dw_631 : lw_in (Cond.selects RX0 yX0_isDaring yX0_isDaring) := ⟨List.mem_of_getElem? (i := 50) rfl, good_of_word (by decide +kernel)⟩
theorem dw_632 : lw_in (Cond.instanceMethod yX0_isDaring) := ⟨lw_t (tm_4 (List.mem_of_getElem? (i := 46) rfl)), good_of_word (by decide +kernel)⟩
theorem dw_633 : lw_in (Cond.selects RX0 yX0_fareOf yX0_fareOf) := ⟨List.mem_of_getElem? (i := 48) rfl, good_of_word (by decide +kernel)⟩
theorem dw_634 : lw_in (Cond.instanceMethod yX0_fareOf) := ⟨lw_t (tm_4 (List.mem_of_getElem? (i := 38) rfl)), good_of_word (by decide +kernel)⟩
theorem dw_635 : lw_in (Cond.selects RX5 yX5_hasParty yX5_hasParty) := ⟨List.mem_of_getElem? (i := 47) rfl, good_of_word (by decide +kernel)⟩
theorem dw_636 : lw_in (Cond.instanceMethod yX5_hasParty) := ⟨lw_t (tm_4 (List.mem_of_getElem? (i := 34) rfl)), good_of_word (by decide +kernel)⟩
set_option maxRecDepth 100000 in
theorem dw_637 : lw_in (Cond.code yX5_hasParty cX5_hasParty 2 (some .boolean)) := ⟨lw_t (tm_4 (List.mem_of_getElem? (i := 35) rfl)), good_of_word (by decide +kernel)⟩
set_option maxRecDepth 100000 in
theorem dw_638 : lw_in (Cond.code yX0_fareOf cX0_fareOf 3 (some .int)) := ⟨lw_t (tm_4 (List.mem_of_getElem? (i := 39) rfl)), good_of_word (by decide +kernel)⟩
theorem dw_639 : lw_in (Cond.selects RX0 yX0_setParty yX0_setParty) := ⟨List.mem_of_getElem? (i := 49) rfl, good_of_word (by decide +kernel)⟩
theorem dw_640 : lw_in (Cond.instanceMethod yX0_setParty) := ⟨lw_t (tm_4 (List.mem_of_getElem? (i := 42) rfl)), good_of_word (by decide +kernel)⟩
theorem dw_641 : lw_in (Cond.methodLink RX0 85 yX0_setParty) := ⟨lw_t (tm_4 (List.mem_of_getElem? (i := 40) rfl)), good_of_word (by decide +kernel)⟩
set_option maxRecDepth 100000 in
theorem dw_642 : lw_in (Cond.code yX0_setParty cX0_setParty 3 none) := ⟨lw_t (tm_4 (List.mem_of_getElem? (i := 43) rfl)), good_of_word (by decide +kernel)⟩
set_option maxRecDepth 100000 in
theorem dw_643 : lw_in (Cond.code yX0_isDaring cX0_isDaring 3 (some .boolean)) := ⟨lw_t (tm_4 (List.mem_of_getElem? (i := 47) rfl)), good_of_word (by decide +kernel)⟩
theorem dw_644 : lw_in (Cond.selects RX10 yX10_party yX10_party) := ⟨lw_t (tm_4 (List.mem_of_getElem? (i := 30) rfl)), good_of_word (by decide +kernel)⟩
theorem dw_645 : lw_in (Cond.instanceMethod yX10_party) := ⟨lw_t (tm_4 (List.mem_of_getElem? (i := 29) rfl)), good_of_word (by decide +kernel)⟩
theorem dw_646 : lw_in (Cond.methodLink R_law 41 yX10_party) := ⟨lw_t (tm_4 (List.mem_of_getElem? (i := 28) rfl)), good_of_word (by decide +kernel)⟩
set_option maxRecDepth 100000 in
theorem dw_647 : lw_in (Cond.code yX11_party cX11_party 3 (some .int)) := ⟨lw_t (tm_7 (List.mem_of_getElem? (i := 107) rfl)), good_of_word (by decide +kernel)⟩
theorem dw_648 : lw_in (Cond.selects RX11 yX11_doesDare yX11_doesDare) := ⟨List.mem_of_getElem? (i := 138) rfl, good_of_word (by decide +kernel)⟩
theorem dw_649 : lw_in (Cond.instanceMethod yX11_doesDare) := ⟨lw_t (tm_7 (List.mem_of_getElem? (i := 118) rfl)), good_of_word (by decide +kernel)⟩
theorem dw_650 : lw_in (Cond.methodLink RX11 361 yX11_doesDare) := ⟨lw_t (tm_7 (List.mem_of_getElem? (i := 116) rfl)), good_of_word (by decide +kernel)⟩
theorem dw_651 : lw_in (Cond.selects RX11 yX11_faresOf yX11_faresOf) := ⟨List.mem_of_getElem? (i := 137) rfl, good_of_word (by decide +kernel)⟩
theorem dw_652 : lw_in (Cond.instanceMethod yX11_faresOf) := ⟨lw_t (tm_7 (List.mem_of_getElem? (i := 114) rfl)), good_of_word (by decide +kernel)⟩
theorem dw_653 : lw_in (Cond.methodLink RX11 339 yX11_faresOf) := ⟨lw_t (tm_7 (List.mem_of_getElem? (i := 112) rfl)), good_of_word (by decide +kernel)⟩
theorem dw_654 : lw_in (Cond.selects RX11 yX11_isParty yX11_isParty) := ⟨List.mem_of_getElem? (i := 136) rfl, good_of_word (by decide +kernel)⟩
theorem dw_655 : lw_in (Cond.instanceMethod yX11_isParty) := ⟨lw_t (tm_7 (List.mem_of_getElem? (i := 110) rfl)), good_of_word (by decide +kernel)⟩
theorem dw_656 : lw_in (Cond.methodLink RX11 358 yX11_isParty) := ⟨lw_t (tm_7 (List.mem_of_getElem? (i := 108) rfl)), good_of_word (by decide +kernel)⟩
set_option maxRecDepth 100000 in
theorem dw_657 : lw_in (Cond.code yX11_isParty cX11_isParty 2 (some .boolean)) := ⟨lw_t (tm_7 (List.mem_of_getElem? (i := 111) rfl)), good_of_word (by decide +kernel)⟩
set_option maxRecDepth 100000 in
theorem dw_658 : lw_in (Cond.code yX11_faresOf cX11_faresOf 2 (some .int)) := ⟨lw_t (tm_7 (List.mem_of_getElem? (i := 115) rfl)), good_of_word (by decide +kernel)⟩
set_option maxRecDepth 100000 in
theorem dw_659 : lw_in (Cond.code yX11_doesDare cX11_doesDare 2 (some .boolean)) := ⟨lw_t (tm_7 (List.mem_of_getElem? (i := 119) rfl)), good_of_word (by decide +kernel)⟩
theorem dw_660 : lw_in (Cond.selects RX11 yX11_party yX11_party) := ⟨lw_t (tm_7 (List.mem_of_getElem? (i := 106) rfl)), good_of_word (by decide +kernel)⟩
theorem dw_661 : lw_in (Cond.instanceMethod yX11_party) := ⟨lw_t (tm_7 (List.mem_of_getElem? (i := 105) rfl)), good_of_word (by decide +kernel)⟩
theorem dw_662 : lw_in (Cond.methodLink R_law 44 yX11_party) := ⟨lw_t (tm_7 (List.mem_of_getElem? (i := 104) rfl)), good_of_word (by decide +kernel)⟩
set_option maxRecDepth 100000 in
theorem dw_663 : lw_in (Cond.code yX10_needs cX10_needs 4 (some .int)) := ⟨lw_t (tm_4 (List.mem_of_getElem? (i := 51) rfl)), good_of_word (by decide +kernel)⟩
theorem dw_664 : lw_in (Cond.selects RX0 yX0_needOf yX0_needOf) := ⟨List.mem_of_getElem? (i := 51) rfl, good_of_word (by decide +kernel)⟩
theorem dw_665 : lw_in (Cond.instanceMethod yX0_needOf) := ⟨lw_t (tm_4 (List.mem_of_getElem? (i := 54) rfl)), good_of_word (by decide +kernel)⟩
set_option maxRecDepth 100000 in
theorem dw_666 : lw_in (Cond.code yX0_needOf cX0_needOf 5 (some .int)) := ⟨lw_t (tm_4 (List.mem_of_getElem? (i := 55) rfl)), good_of_word (by decide +kernel)⟩
theorem dw_667 : lw_in (Cond.selects RX10 yX10_needs yX10_needs) := ⟨lw_t (tm_4 (List.mem_of_getElem? (i := 50) rfl)), good_of_word (by decide +kernel)⟩
theorem dw_668 : lw_in (Cond.instanceMethod yX10_needs) := ⟨lw_t (tm_4 (List.mem_of_getElem? (i := 49) rfl)), good_of_word (by decide +kernel)⟩
theorem dw_669 : lw_in (Cond.methodLink R_law 45 yX10_needs) := ⟨lw_t (tm_4 (List.mem_of_getElem? (i := 48) rfl)), good_of_word (by decide +kernel)⟩
set_option maxRecDepth 100000 in
theorem dw_670 : lw_in (Cond.code yX11_needs cX11_needs 4 (some .int)) := ⟨lw_t (tm_7 (List.mem_of_getElem? (i := 123) rfl)), good_of_word (by decide +kernel)⟩
theorem dw_671 : lw_in (Cond.selects RX11 yX11_needsOf yX11_needsOf) := ⟨List.mem_of_getElem? (i := 139) rfl, good_of_word (by decide +kernel)⟩
theorem dw_672 : lw_in (Cond.instanceMethod yX11_needsOf) := ⟨lw_t (tm_7 (List.mem_of_getElem? (i := 126) rfl)), good_of_word (by decide +kernel)⟩
theorem dw_673 : lw_in (Cond.methodLink RX11 327 yX11_needsOf) := ⟨lw_t (tm_7 (List.mem_of_getElem? (i := 124) rfl)), good_of_word (by decide +kernel)⟩
set_option maxRecDepth 100000 in
theorem dw_674 : lw_in (Cond.code yX11_needsOf cX11_needsOf 4 (some .int)) := ⟨lw_t (tm_7 (List.mem_of_getElem? (i := 127) rfl)), good_of_word (by decide +kernel)⟩
theorem dw_675 : lw_in (Cond.selects RX11 yX11_needs yX11_needs) := ⟨lw_t (tm_7 (List.mem_of_getElem? (i := 122) rfl)), good_of_word (by decide +kernel)⟩
theorem dw_676 : lw_in (Cond.instanceMethod yX11_needs) := ⟨lw_t (tm_7 (List.mem_of_getElem? (i := 121) rfl)), good_of_word (by decide +kernel)⟩
theorem dw_677 : lw_in (Cond.methodLink R_law 49 yX11_needs) := ⟨lw_t (tm_7 (List.mem_of_getElem? (i := 120) rfl)), good_of_word (by decide +kernel)⟩
set_option maxRecDepth 100000 in
theorem dw_678 : lw_in (Cond.code yX10_go cX10_go 3 (some .int)) := ⟨lw_t (tm_4 (List.mem_of_getElem? (i := 60) rfl)), good_of_word (by decide +kernel)⟩
theorem dw_679 : lw_in (Cond.selects RX0 yX0_sendBy yX0_sendBy) := ⟨List.mem_of_getElem? (i := 56) rfl, good_of_word (by decide +kernel)⟩
theorem dw_680 : lw_in (Cond.instanceMethod yX0_sendBy) := ⟨lw_t (tm_4 (List.mem_of_getElem? (i := 80) rfl)), good_of_word (by decide +kernel)⟩
theorem dw_681 : lw_in (Cond.selects RX3 yX3_remember yX3_remember) := ⟨List.mem_of_getElem? (i := 54) rfl, good_of_word (by decide +kernel)⟩
theorem dw_682 : lw_in (Cond.instanceMethod yX3_remember) := ⟨lw_t (tm_4 (List.mem_of_getElem? (i := 71) rfl)), good_of_word (by decide +kernel)⟩
theorem dw_683 : lw_in (Cond.selects RX5 yX5_hasGuess yX5_hasGuess) := ⟨List.mem_of_getElem? (i := 53) rfl, good_of_word (by decide +kernel)⟩
theorem dw_684 : lw_in (Cond.instanceMethod yX5_hasGuess) := ⟨lw_t (tm_4 (List.mem_of_getElem? (i := 67) rfl)), good_of_word (by decide +kernel)⟩
theorem dw_685 : lw_in (Cond.selects RX10 yX10_isHere yX10_isHere) := ⟨List.mem_of_getElem? (i := 52) rfl, good_of_word (by decide +kernel)⟩
theorem dw_686 : lw_in (Cond.instanceMethod yX10_isHere) := ⟨lw_t (tm_4 (List.mem_of_getElem? (i := 63) rfl)), good_of_word (by decide +kernel)⟩
theorem dw_687 : lw_in (Cond.methodLink RX10 164 yX10_isHere) := ⟨lw_t (tm_4 (List.mem_of_getElem? (i := 61) rfl)), good_of_word (by decide +kernel)⟩
set_option maxRecDepth 100000 in
theorem dw_688 : lw_in (Cond.code yX10_isHere cX10_isHere 2 (some .boolean)) := ⟨lw_t (tm_4 (List.mem_of_getElem? (i := 64) rfl)), good_of_word (by decide +kernel)⟩
set_option maxRecDepth 100000 in
theorem dw_689 : lw_in (Cond.code yX5_hasGuess cX5_hasGuess 2 (some .boolean)) := ⟨lw_t (tm_4 (List.mem_of_getElem? (i := 68) rfl)), good_of_word (by decide +kernel)⟩
set_option maxRecDepth 100000 in
theorem dw_690 : lw_in (Cond.code yX3_remember cX3_remember 2 none) := ⟨lw_t (tm_4 (List.mem_of_getElem? (i := 72) rfl)), good_of_word (by decide +kernel)⟩
theorem dw_691 : lw_in (Cond.selects RX6 yX6_copyFrom yX6_copyFrom) := ⟨List.mem_of_getElem? (i := 55) rfl, good_of_word (by decide +kernel)⟩
theorem dw_692 : lw_in (Cond.instanceMethod yX6_copyFrom) := ⟨lw_t (tm_4 (List.mem_of_getElem? (i := 75) rfl)), good_of_word (by decide +kernel)⟩
theorem dw_693 : lw_in (Cond.fieldLink RX3 29 "GuessFerry$Past" "first" "I") := ⟨lw_t (tm_2 (List.mem_of_getElem? (i := 107) rfl)), good_of_word (by decide +kernel)⟩
theorem dw_694 : lw_in (Cond.fieldLink RX3 11 "GuessFerry$Past" "ring" "[LGuessFerry$Standing;") := ⟨lw_t (tm_2 (List.mem_of_getElem? (i := 104) rfl)), good_of_word (by decide +kernel)⟩
set_option maxRecDepth 100000 in
theorem dw_695 : lw_in (Cond.code yX6_copyFrom cX6_copyFrom 2 none) := ⟨lw_t (tm_4 (List.mem_of_getElem? (i := 76) rfl)), good_of_word (by decide +kernel)⟩
theorem dw_696 : lw_in (Cond.methodLink RX6 40 arraycopyName) := ⟨lw_t (tm_4 (List.mem_of_getElem? (i := 77) rfl)), good_of_word (by decide +kernel)⟩
set_option maxRecDepth 100000 in
theorem dw_697 : lw_in (Cond.code yX0_sendBy cX0_sendBy 8 (some .int)) := ⟨lw_t (tm_4 (List.mem_of_getElem? (i := 81) rfl)), good_of_word (by decide +kernel)⟩
theorem dw_698 : lw_in (Cond.methodLink RX0 119 yX0_thereNow) := ⟨lw_t (tm_4 (List.mem_of_getElem? (i := 91) rfl)), good_of_word (by decide +kernel)⟩
theorem dw_699 : lw_in (Cond.selects RX0 yX0_isBearing yX0_isBearing) := ⟨List.mem_of_getElem? (i := 57) rfl, good_of_word (by decide +kernel)⟩
theorem dw_700 : lw_in (Cond.instanceMethod yX0_isBearing) := ⟨lw_t (tm_4 (List.mem_of_getElem? (i := 88) rfl)), good_of_word (by decide +kernel)⟩
theorem dw_701 : lw_in (Cond.methodLink RX0 115 yX0_isBearing) := ⟨lw_t (tm_4 (List.mem_of_getElem? (i := 86) rfl)), good_of_word (by decide +kernel)⟩
theorem dw_702 : lw_in (Cond.static yX10_thingIn) := ⟨lw_t (tm_4 (List.mem_of_getElem? (i := 84) rfl)), good_of_word (by decide +kernel)⟩
theorem dw_703 : lw_in (Cond.methodLink RX0 109 yX0_fareOf) := ⟨lw_t (tm_4 (List.mem_of_getElem? (i := 82) rfl)), good_of_word (by decide +kernel)⟩
set_option maxRecDepth 100000 in
theorem dw_704 : lw_in (Cond.code yX10_thingIn cX10_thingIn 4 (some .int)) := ⟨lw_t (tm_4 (List.mem_of_getElem? (i := 85) rfl)), good_of_word (by decide +kernel)⟩
set_option maxRecDepth 100000 in
theorem dw_705 : lw_in (Cond.code yX0_isBearing cX0_isBearing 5 (some .boolean)) := ⟨lw_t (tm_4 (List.mem_of_getElem? (i := 89) rfl)), good_of_word (by decide +kernel)⟩
theorem dw_706 : lw_in (Cond.methodLink RX0 102 yX0_needOf) := ⟨lw_t (tm_4 (List.mem_of_getElem? (i := 90) rfl)), good_of_word (by decide +kernel)⟩
theorem dw_707 : lw_in (Cond.selects RX10 yX10_go yX10_go) := ⟨lw_t (tm_4 (List.mem_of_getElem? (i := 59) rfl)), good_of_word (by decide +kernel)⟩
theorem dw_708 : lw_in (Cond.instanceMethod yX10_go) := ⟨lw_t (tm_4 (List.mem_of_getElem? (i := 58) rfl)), good_of_word (by decide +kernel)⟩
theorem dw_709 : lw_in (Cond.methodLink R_law 50 yX10_go) := ⟨lw_t (tm_4 (List.mem_of_getElem? (i := 57) rfl)), good_of_word (by decide +kernel)⟩
set_option maxRecDepth 100000 in
theorem dw_710 : lw_in (Cond.code yX11_go cX11_go 4 (some .int)) := ⟨lw_t (tm_7 (List.mem_of_getElem? (i := 131) rfl)), good_of_word (by decide +kernel)⟩
theorem dw_711 : lw_in (Cond.selects RX11 yX11_records yX11_records) := ⟨List.mem_of_getElem? (i := 148) rfl, good_of_word (by decide +kernel)⟩
theorem dw_712 : lw_in (Cond.instanceMethod yX11_records) := ⟨lw_t (tm_7 (List.mem_of_getElem? (i := 166) rfl)), good_of_word (by decide +kernel)⟩
theorem dw_713 : lw_in (Cond.methodLink RX11 376 yX11_records) := ⟨lw_t (tm_7 (List.mem_of_getElem? (i := 164) rfl)), good_of_word (by decide +kernel)⟩
theorem dw_714 : lw_in (Cond.selects RX11 yX11_goesBy yX11_goesBy) := ⟨List.mem_of_getElem? (i := 144) rfl, good_of_word (by decide +kernel)⟩
theorem dw_715 : lw_in (Cond.instanceMethod yX11_goesBy) := ⟨lw_t (tm_7 (List.mem_of_getElem? (i := 150) rfl)), good_of_word (by decide +kernel)⟩
theorem dw_716 : lw_in (Cond.methodLink RX11 373 yX11_goesBy) := ⟨lw_t (tm_7 (List.mem_of_getElem? (i := 148) rfl)), good_of_word (by decide +kernel)⟩
theorem dw_717 : lw_in (Cond.selects RX11 yX11_thereNumber yX11_thereNumber) := ⟨List.mem_of_getElem? (i := 143) rfl, good_of_word (by decide +kernel)⟩
theorem dw_718 : lw_in (Cond.instanceMethod yX11_thereNumber) := ⟨lw_t (tm_7 (List.mem_of_getElem? (i := 146) rfl)), good_of_word (by decide +kernel)⟩
theorem dw_719 : lw_in (Cond.methodLink RX11 370 yX11_thereNumber) := ⟨lw_t (tm_7 (List.mem_of_getElem? (i := 144) rfl)), good_of_word (by decide +kernel)⟩
theorem dw_720 : lw_in (Cond.selects RX11 yX11_isGuess yX11_isGuess) := ⟨List.mem_of_getElem? (i := 141) rfl, good_of_word (by decide +kernel)⟩
theorem dw_721 : lw_in (Cond.instanceMethod yX11_isGuess) := ⟨lw_t (tm_7 (List.mem_of_getElem? (i := 138) rfl)), good_of_word (by decide +kernel)⟩
theorem dw_722 : lw_in (Cond.methodLink RX11 367 yX11_isGuess) := ⟨lw_t (tm_7 (List.mem_of_getElem? (i := 136) rfl)), good_of_word (by decide +kernel)⟩
theorem dw_723 : lw_in (Cond.selects RX11 yX11_isHere yX11_isHere) := ⟨List.mem_of_getElem? (i := 140) rfl, good_of_word (by decide +kernel)⟩
theorem dw_724 : lw_in (Cond.instanceMethod yX11_isHere) := ⟨lw_t (tm_7 (List.mem_of_getElem? (i := 134) rfl)), good_of_word (by decide +kernel)⟩
theorem dw_725 : lw_in (Cond.methodLink RX11 364 yX11_isHere) := ⟨lw_t (tm_7 (List.mem_of_getElem? (i := 132) rfl)), good_of_word (by decide +kernel)⟩
set_option maxRecDepth 100000 in
theorem dw_726 : lw_in (Cond.code yX11_isHere cX11_isHere 2 (some .boolean)) := ⟨lw_t (tm_7 (List.mem_of_getElem? (i := 135) rfl)), good_of_word (by decide +kernel)⟩
set_option maxRecDepth 100000 in
theorem dw_727 : lw_in (Cond.code yX11_isGuess cX11_isGuess 2 (some .boolean)) := ⟨lw_t (tm_7 (List.mem_of_getElem? (i := 139) rfl)), good_of_word (by decide +kernel)⟩
theorem dw_728 : lw_in (Cond.selects RX11 yX11_guesses yX11_guesses) := ⟨List.mem_of_getElem? (i := 142) rfl, good_of_word (by decide +kernel)⟩
theorem dw_729 : lw_in (Cond.instanceMethod yX11_guesses) := ⟨lw_t (tm_7 (List.mem_of_getElem? (i := 142) rfl)), good_of_word (by decide +kernel)⟩
theorem dw_730 : lw_in (Cond.methodLink RX11 285 yX11_guesses) := ⟨lw_t (tm_7 (List.mem_of_getElem? (i := 140) rfl)), good_of_word (by decide +kernel)⟩
set_option maxRecDepth 100000 in
theorem dw_731 : lw_in (Cond.code yX11_guesses cX11_guesses 1 (some .int)) := ⟨lw_t (tm_7 (List.mem_of_getElem? (i := 143) rfl)), good_of_word (by decide +kernel)⟩
set_option maxRecDepth 100000 in
theorem dw_732 : lw_in (Cond.code yX11_thereNumber cX11_thereNumber 3 (some .int)) := ⟨lw_t (tm_7 (List.mem_of_getElem? (i := 147) rfl)), good_of_word (by decide +kernel)⟩
set_option maxRecDepth 100000 in
theorem dw_733 : lw_in (Cond.code yX11_goesBy cX11_goesBy 7 (some .int)) := ⟨lw_t (tm_7 (List.mem_of_getElem? (i := 151) rfl)), good_of_word (by decide +kernel)⟩
theorem dw_734 : lw_in (Cond.selects RX11 yX11_thingAt yX11_thingAt) := ⟨List.mem_of_getElem? (i := 146) rfl, good_of_word (by decide +kernel)⟩
theorem dw_735 : lw_in (Cond.instanceMethod yX11_thingAt) := ⟨lw_t (tm_7 (List.mem_of_getElem? (i := 158) rfl)), good_of_word (by decide +kernel)⟩
theorem dw_736 : lw_in (Cond.methodLink RX11 330 yX11_thingAt) := ⟨lw_t (tm_7 (List.mem_of_getElem? (i := 156) rfl)), good_of_word (by decide +kernel)⟩
theorem dw_737 : lw_in (Cond.selects RX11 yX11_bearsBy yX11_bearsBy) := ⟨List.mem_of_getElem? (i := 145) rfl, good_of_word (by decide +kernel)⟩
theorem dw_738 : lw_in (Cond.instanceMethod yX11_bearsBy) := ⟨lw_t (tm_7 (List.mem_of_getElem? (i := 154) rfl)), good_of_word (by decide +kernel)⟩
theorem dw_739 : lw_in (Cond.methodLink RX11 336 yX11_bearsBy) := ⟨lw_t (tm_7 (List.mem_of_getElem? (i := 152) rfl)), good_of_word (by decide +kernel)⟩
set_option maxRecDepth 100000 in
theorem dw_740 : lw_in (Cond.code yX11_bearsBy cX11_bearsBy 4 (some .int)) := ⟨lw_t (tm_7 (List.mem_of_getElem? (i := 155) rfl)), good_of_word (by decide +kernel)⟩
theorem dw_741 : lw_in (Cond.selects RX11 yX11_doesBear yX11_doesBear) := ⟨List.mem_of_getElem? (i := 147) rfl, good_of_word (by decide +kernel)⟩
theorem dw_742 : lw_in (Cond.instanceMethod yX11_doesBear) := ⟨lw_t (tm_7 (List.mem_of_getElem? (i := 162) rfl)), good_of_word (by decide +kernel)⟩
theorem dw_743 : lw_in (Cond.methodLink RX11 333 yX11_doesBear) := ⟨lw_t (tm_7 (List.mem_of_getElem? (i := 160) rfl)), good_of_word (by decide +kernel)⟩
set_option maxRecDepth 100000 in
theorem dw_744 : lw_in (Cond.code yX11_thingAt cX11_thingAt 3 (some .int)) := ⟨lw_t (tm_7 (List.mem_of_getElem? (i := 159) rfl)), good_of_word (by decide +kernel)⟩
set_option maxRecDepth 100000 in
theorem dw_745 : lw_in (Cond.code yX11_doesBear cX11_doesBear 4 (some .boolean)) := ⟨lw_t (tm_7 (List.mem_of_getElem? (i := 163) rfl)), good_of_word (by decide +kernel)⟩
set_option maxRecDepth 100000 in
theorem dw_746 : lw_in (Cond.code yX11_records cX11_records 2 none) := ⟨lw_t (tm_7 (List.mem_of_getElem? (i := 167) rfl)), good_of_word (by decide +kernel)⟩
theorem dw_747 : lw_in (Cond.fieldLink RX11 110 "GuessFerryModel" "history" "[I") := ⟨lw_t (tm_6 (List.mem_of_getElem? (i := 44) rfl)), good_of_word (by decide +kernel)⟩
theorem dw_748 : lw_in (Cond.selects RX11 yX11_go yX11_go) := ⟨lw_t (tm_7 (List.mem_of_getElem? (i := 130) rfl)), good_of_word (by decide +kernel)⟩
theorem dw_749 : lw_in (Cond.instanceMethod yX11_go) := ⟨lw_t (tm_7 (List.mem_of_getElem? (i := 129) rfl)), good_of_word (by decide +kernel)⟩
