set_option maxRecDepth 100000 in
theorem dw_500 : lw_in (Cond.code yX11_cut cX11_cut 8 none) := ⟨List.mem_of_getElem? (i := 1557) rfl, good_of_word (by decide +kernel)⟩
theorem dw_501 : lw_in (Cond.selects RX11 yX11_cut yX11_cut) := ⟨List.mem_of_getElem? (i := 105) (by decide +kernel), good_of_word (by decide +kernel)⟩
theorem dw_502 : lw_in (Cond.instanceMethod yX11_cut) := ⟨List.mem_of_getElem? (i := 1556) (by decide +kernel), good_of_word (by decide +kernel)⟩
theorem dw_503 : lw_in (Cond.methodLink RX11 209 yX11_cut) := ⟨List.mem_of_getElem? (i := 1554) (by decide +kernel), good_of_word (by decide +kernel)⟩
theorem dw_504 : lw_in (Cond.fieldLink RX11 233 "GuessFerryModel" "tolds" "I") := ⟨List.mem_of_getElem? (i := 1414) (by decide +kernel), good_of_word (by decide +kernel)⟩
theorem dw_505 : lw_in (Cond.fieldLink RX11 230 "GuessFerryModel" "undos" "I") := ⟨List.mem_of_getElem? (i := 1411) (by decide +kernel), good_of_word (by decide +kernel)⟩
theorem dw_506 : lw_in (Cond.fieldLink RX11 197 "GuessFerryModel" "worstPlace" "I") := ⟨List.mem_of_getElem? (i := 1379) (by decide +kernel), good_of_word (by decide +kernel)⟩
theorem dw_507 : lw_in (Cond.fieldLink RX11 191 "GuessFerryModel" "faultPlace" "I") := ⟨List.mem_of_getElem? (i := 1377) (by decide +kernel), good_of_word (by decide +kernel)⟩
theorem dw_508 : lw_in (Cond.fieldLink RX11 224 "GuessFerryModel" "codes" "I") := ⟨List.mem_of_getElem? (i := 1398) (by decide +kernel), good_of_word (by decide +kernel)⟩
theorem dw_509 : lw_in (Cond.fieldLink RX11 221 "GuessFerryModel" "branches" "I") := ⟨List.mem_of_getElem? (i := 1392) (by decide +kernel), good_of_word (by decide +kernel)⟩
theorem dw_510 : lw_in (Cond.fieldLink RX11 218 "GuessFerryModel" "side" "I") := ⟨List.mem_of_getElem? (i := 1382) (by decide +kernel), good_of_word (by decide +kernel)⟩
theorem dw_511 : lw_in (Cond.fieldLink RX11 194 "GuessFerryModel" "worst" "I") := ⟨List.mem_of_getElem? (i := 1378) (by decide +kernel), good_of_word (by decide +kernel)⟩
theorem dw_512 : lw_in (Cond.fieldLink RX11 185 "GuessFerryModel" "fault" "I") := ⟨List.mem_of_getElem? (i := 1376) (by decide +kernel), good_of_word (by decide +kernel)⟩
theorem dw_513 : lw_in (Cond.fieldLink RX11 212 "GuessFerryModel" "open" "I") := ⟨List.mem_of_getElem? (i := 1375) (by decide +kernel), good_of_word (by decide +kernel)⟩
theorem dw_514 : lw_in (Cond.fieldLink RX11 188 "GuessFerryModel" "t" "I") := ⟨List.mem_of_getElem? (i := 1374) (by decide +kernel), good_of_word (by decide +kernel)⟩
theorem dw_515 : lw_in (Cond.fieldLink RX11 154 "GuessFerryModel" "size" "I") := ⟨List.mem_of_getElem? (i := 1367) (by decide +kernel), good_of_word (by decide +kernel)⟩
theorem dw_516 : lw_in (Cond.methodLink RX11 181 yX11_sign) := ⟨List.mem_of_getElem? (i := 1572) (by decide +kernel), good_of_word (by decide +kernel)⟩
set_option maxRecDepth 100000 in
theorem dw_517 : lw_in (Cond.code yX11_isDigit cX11_isDigit 1 (some .boolean)) := ⟨List.mem_of_getElem? (i := 1571) rfl, good_of_word (by decide +kernel)⟩
theorem dw_518 : lw_in (Cond.static yX11_isDigit) := ⟨List.mem_of_getElem? (i := 1570) (by decide +kernel), good_of_word (by decide +kernel)⟩
theorem dw_519 : lw_in (Cond.methodLink RX11 178 yX11_isDigit) := ⟨List.mem_of_getElem? (i := 1569) (by decide +kernel), good_of_word (by decide +kernel)⟩
set_option maxRecDepth 100000 in
theorem dw_520 : lw_in (Cond.code yX11_isLetter cX11_isLetter 1 (some .boolean)) := ⟨List.mem_of_getElem? (i := 1568) rfl, good_of_word (by decide +kernel)⟩
theorem dw_521 : lw_in (Cond.static yX11_isLetter) := ⟨List.mem_of_getElem? (i := 1567) (by decide +kernel), good_of_word (by decide +kernel)⟩
theorem dw_522 : lw_in (Cond.methodLink RX11 174 yX11_isLetter) := ⟨List.mem_of_getElem? (i := 1566) (by decide +kernel), good_of_word (by decide +kernel)⟩
set_option maxRecDepth 100000 in
theorem dw_523 : lw_in (Cond.code yX11_token cX11_token 6 none) := ⟨List.mem_of_getElem? (i := 1565) rfl, good_of_word (by decide +kernel)⟩
theorem dw_524 : lw_in (Cond.selects RX11 yX11_token yX11_token) := ⟨List.mem_of_getElem? (i := 107) (by decide +kernel), good_of_word (by decide +kernel)⟩
theorem dw_525 : lw_in (Cond.instanceMethod yX11_token) := ⟨List.mem_of_getElem? (i := 1564) (by decide +kernel), good_of_word (by decide +kernel)⟩
theorem dw_526 : lw_in (Cond.methodLink RX11 170 yX11_token) := ⟨List.mem_of_getElem? (i := 1562) (by decide +kernel), good_of_word (by decide +kernel)⟩
set_option maxRecDepth 100000 in
theorem dw_527 : lw_in (Cond.code yX11_byteAt cX11_byteAt 2 (some .int)) := ⟨List.mem_of_getElem? (i := 1561) rfl, good_of_word (by decide +kernel)⟩
theorem dw_528 : lw_in (Cond.selects RX11 yX11_byteAt yX11_byteAt) := ⟨List.mem_of_getElem? (i := 106) (by decide +kernel), good_of_word (by decide +kernel)⟩
theorem dw_529 : lw_in (Cond.instanceMethod yX11_byteAt) := ⟨List.mem_of_getElem? (i := 1560) (by decide +kernel), good_of_word (by decide +kernel)⟩
theorem dw_530 : lw_in (Cond.methodLink RX11 166 yX11_byteAt) := ⟨List.mem_of_getElem? (i := 1558) (by decide +kernel), good_of_word (by decide +kernel)⟩
set_option maxRecDepth 100000 in
theorem dw_531 : lw_in (Cond.code yX11_roomFor cX11_roomFor 3 none) := ⟨List.mem_of_getElem? (i := 1587) rfl, good_of_word (by decide +kernel)⟩
theorem dw_532 : lw_in (Cond.selects RX11 yX11_roomFor yX11_roomFor) := ⟨List.mem_of_getElem? (i := 111) (by decide +kernel), good_of_word (by decide +kernel)⟩
theorem dw_533 : lw_in (Cond.instanceMethod yX11_roomFor) := ⟨List.mem_of_getElem? (i := 1586) (by decide +kernel), good_of_word (by decide +kernel)⟩
theorem dw_534 : lw_in (Cond.methodLink RX11 236 yX11_roomFor) := ⟨List.mem_of_getElem? (i := 1584) (by decide +kernel), good_of_word (by decide +kernel)⟩
set_option maxRecDepth 100000 in
theorem dw_535 : lw_in (Cond.code yX11_tellOne cX11_tellOne 2 none) := ⟨List.mem_of_getElem? (i := 1583) rfl, good_of_word (by decide +kernel)⟩
theorem dw_536 : lw_in (Cond.selects RX11 yX11_tellOne yX11_tellOne) := ⟨List.mem_of_getElem? (i := 110) (by decide +kernel), good_of_word (by decide +kernel)⟩
theorem dw_537 : lw_in (Cond.instanceMethod yX11_tellOne) := ⟨List.mem_of_getElem? (i := 1582) (by decide +kernel), good_of_word (by decide +kernel)⟩
theorem dw_538 : lw_in (Cond.methodLink RX11 227 yX11_tellOne) := ⟨List.mem_of_getElem? (i := 1580) (by decide +kernel), good_of_word (by decide +kernel)⟩
set_option maxRecDepth 100000 in
theorem dw_539 : lw_in (Cond.code yX11_is cX11_is 2 (some .boolean)) := ⟨List.mem_of_getElem? (i := 1579) rfl, good_of_word (by decide +kernel)⟩
theorem dw_540 : lw_in (Cond.selects RX11 yX11_is yX11_is) := ⟨List.mem_of_getElem? (i := 109) (by decide +kernel), good_of_word (by decide +kernel)⟩
theorem dw_541 : lw_in (Cond.instanceMethod yX11_is) := ⟨List.mem_of_getElem? (i := 1578) (by decide +kernel), good_of_word (by decide +kernel)⟩
theorem dw_542 : lw_in (Cond.methodLink RX11 203 yX11_is) := ⟨List.mem_of_getElem? (i := 1576) (by decide +kernel), good_of_word (by decide +kernel)⟩
set_option maxRecDepth 100000 in
theorem dw_543 : lw_in (Cond.code yX11_sign cX11_sign 5 (some .int)) := ⟨List.mem_of_getElem? (i := 1575) rfl, good_of_word (by decide +kernel)⟩
theorem dw_544 : lw_in (Cond.selects RX11 yX11_sign yX11_sign) := ⟨List.mem_of_getElem? (i := 108) (by decide +kernel), good_of_word (by decide +kernel)⟩
theorem dw_545 : lw_in (Cond.instanceMethod yX11_sign) := ⟨List.mem_of_getElem? (i := 1574) (by decide +kernel), good_of_word (by decide +kernel)⟩
theorem dw_546 : lw_in (Cond.selects RX11 yX11_must yX11_must) := ⟨List.mem_of_getElem? (i := 117) (by decide +kernel), good_of_word (by decide +kernel)⟩
theorem dw_547 : lw_in (Cond.instanceMethod yX11_must) := ⟨List.mem_of_getElem? (i := 1610) (by decide +kernel), good_of_word (by decide +kernel)⟩
theorem dw_548 : lw_in (Cond.methodLink RX11 249 yX11_must) := ⟨List.mem_of_getElem? (i := 1608) (by decide +kernel), good_of_word (by decide +kernel)⟩
set_option maxRecDepth 100000 in
theorem dw_549 : lw_in (Cond.code yX11_wrong cX11_wrong 4 none) := ⟨List.mem_of_getElem? (i := 1607) rfl, good_of_word (by decide +kernel)⟩
theorem dw_550 : lw_in (Cond.selects RX11 yX11_wrong yX11_wrong) := ⟨List.mem_of_getElem? (i := 116) (by decide +kernel), good_of_word (by decide +kernel)⟩
theorem dw_551 : lw_in (Cond.instanceMethod yX11_wrong) := ⟨List.mem_of_getElem? (i := 1606) (by decide +kernel), good_of_word (by decide +kernel)⟩
theorem dw_552 : lw_in (Cond.methodLink RX11 255 yX11_wrong) := ⟨List.mem_of_getElem? (i := 1604) (by decide +kernel), good_of_word (by decide +kernel)⟩
set_option maxRecDepth 100000 in
theorem dw_553 : lw_in (Cond.code yX11_bounded cX11_bounded 3 (some .int)) := ⟨List.mem_of_getElem? (i := 1603) rfl, good_of_word (by decide +kernel)⟩
theorem dw_554 : lw_in (Cond.selects RX11 yX11_bounded yX11_bounded) := ⟨List.mem_of_getElem? (i := 115) (by decide +kernel), good_of_word (by decide +kernel)⟩
theorem dw_555 : lw_in (Cond.instanceMethod yX11_bounded) := ⟨List.mem_of_getElem? (i := 1602) (by decide +kernel), good_of_word (by decide +kernel)⟩
theorem dw_556 : lw_in (Cond.methodLink RX11 246 yX11_bounded) := ⟨List.mem_of_getElem? (i := 1600) (by decide +kernel), good_of_word (by decide +kernel)⟩
set_option maxRecDepth 100000 in
theorem dw_557 : lw_in (Cond.code yX11_tellWave cX11_tellWave 5 none) := ⟨List.mem_of_getElem? (i := 1599) rfl, good_of_word (by decide +kernel)⟩
theorem dw_558 : lw_in (Cond.selects RX11 yX11_tellWave yX11_tellWave) := ⟨List.mem_of_getElem? (i := 114) (by decide +kernel), good_of_word (by decide +kernel)⟩
theorem dw_559 : lw_in (Cond.instanceMethod yX11_tellWave) := ⟨List.mem_of_getElem? (i := 1598) (by decide +kernel), good_of_word (by decide +kernel)⟩
theorem dw_560 : lw_in (Cond.methodLink RX11 240 yX11_tellWave) := ⟨List.mem_of_getElem? (i := 1596) (by decide +kernel), good_of_word (by decide +kernel)⟩
set_option maxRecDepth 100000 in
theorem dw_561 : lw_in (Cond.code yX11_goesOn cX11_goesOn 1 none) := ⟨List.mem_of_getElem? (i := 1595) rfl, good_of_word (by decide +kernel)⟩
theorem dw_562 : lw_in (Cond.selects RX11 yX11_goesOn yX11_goesOn) := ⟨List.mem_of_getElem? (i := 113) (by decide +kernel), good_of_word (by decide +kernel)⟩
theorem dw_563 : lw_in (Cond.instanceMethod yX11_goesOn) := ⟨List.mem_of_getElem? (i := 1594) (by decide +kernel), good_of_word (by decide +kernel)⟩
theorem dw_564 : lw_in (Cond.methodLink RX11 206 yX11_goesOn) := ⟨List.mem_of_getElem? (i := 1592) (by decide +kernel), good_of_word (by decide +kernel)⟩
set_option maxRecDepth 100000 in
theorem dw_565 : lw_in (Cond.code yX11_fail cX11_fail 2 none) := ⟨List.mem_of_getElem? (i := 1591) rfl, good_of_word (by decide +kernel)⟩
theorem dw_566 : lw_in (Cond.selects RX11 yX11_fail yX11_fail) := ⟨List.mem_of_getElem? (i := 112) (by decide +kernel), good_of_word (by decide +kernel)⟩
theorem dw_567 : lw_in (Cond.instanceMethod yX11_fail) := ⟨List.mem_of_getElem? (i := 1590) (by decide +kernel), good_of_word (by decide +kernel)⟩
theorem dw_568 : lw_in (Cond.methodLink RX11 200 yX11_fail) := ⟨List.mem_of_getElem? (i := 1588) (by decide +kernel), good_of_word (by decide +kernel)⟩
theorem dw_569 : lw_in (Cond.selects RX11 yX11_unit yX11_unit) := ⟨List.mem_of_getElem? (i := 121) (by decide +kernel), good_of_word (by decide +kernel)⟩
theorem dw_570 : lw_in (Cond.instanceMethod yX11_unit) := ⟨List.mem_of_getElem? (i := 1626) (by decide +kernel), good_of_word (by decide +kernel)⟩
theorem dw_571 : lw_in (Cond.methodLink RX11 270 yX11_unit) := ⟨List.mem_of_getElem? (i := 1624) (by decide +kernel), good_of_word (by decide +kernel)⟩
theorem dw_572 : lw_in (Cond.fieldLink RX11 264 "GuessFerryModel" "waiting" "I") := ⟨List.mem_of_getElem? (i := 1402) (by decide +kernel), good_of_word (by decide +kernel)⟩
set_option maxRecDepth 100000 in
theorem dw_573 : lw_in (Cond.code yX11_expression cX11_expression 3 none) := ⟨List.mem_of_getElem? (i := 1623) rfl, good_of_word (by decide +kernel)⟩
theorem dw_574 : lw_in (Cond.selects RX11 yX11_expression yX11_expression) := ⟨List.mem_of_getElem? (i := 120) (by decide +kernel), good_of_word (by decide +kernel)⟩
theorem dw_575 : lw_in (Cond.instanceMethod yX11_expression) := ⟨List.mem_of_getElem? (i := 1622) (by decide +kernel), good_of_word (by decide +kernel)⟩
theorem dw_576 : lw_in (Cond.methodLink RX11 258 yX11_expression) := ⟨List.mem_of_getElem? (i := 1620) (by decide +kernel), good_of_word (by decide +kernel)⟩
set_option maxRecDepth 100000 in
theorem dw_577 : lw_in (Cond.code yX11_tellLaw cX11_tellLaw 4 none) := ⟨List.mem_of_getElem? (i := 1619) rfl, good_of_word (by decide +kernel)⟩
theorem dw_578 : lw_in (Cond.selects RX11 yX11_tellLaw yX11_tellLaw) := ⟨List.mem_of_getElem? (i := 119) (by decide +kernel), good_of_word (by decide +kernel)⟩
theorem dw_579 : lw_in (Cond.instanceMethod yX11_tellLaw) := ⟨List.mem_of_getElem? (i := 1618) (by decide +kernel), good_of_word (by decide +kernel)⟩
theorem dw_580 : lw_in (Cond.methodLink RX11 252 yX11_tellLaw) := ⟨List.mem_of_getElem? (i := 1616) (by decide +kernel), good_of_word (by decide +kernel)⟩
set_option maxRecDepth 100000 in
theorem dw_581 : lw_in (Cond.code yX11_tellParty cX11_tellParty 4 none) := ⟨List.mem_of_getElem? (i := 1615) rfl, good_of_word (by decide +kernel)⟩
theorem dw_582 : lw_in (Cond.selects RX11 yX11_tellParty yX11_tellParty) := ⟨List.mem_of_getElem? (i := 118) (by decide +kernel), good_of_word (by decide +kernel)⟩
theorem dw_583 : lw_in (Cond.instanceMethod yX11_tellParty) := ⟨List.mem_of_getElem? (i := 1614) (by decide +kernel), good_of_word (by decide +kernel)⟩
theorem dw_584 : lw_in (Cond.methodLink RX11 243 yX11_tellParty) := ⟨List.mem_of_getElem? (i := 1612) (by decide +kernel), good_of_word (by decide +kernel)⟩
set_option maxRecDepth 100000 in
theorem dw_585 : lw_in (Cond.code yX11_must cX11_must 2 none) := ⟨List.mem_of_getElem? (i := 1611) rfl, good_of_word (by decide +kernel)⟩
set_option maxRecDepth 100000 in
theorem dw_586 : lw_in (Cond.code yX11_term cX11_term 1 none) := ⟨List.mem_of_getElem? (i := 1639) rfl, good_of_word (by decide +kernel)⟩
theorem dw_587 : lw_in (Cond.selects RX11 yX11_term yX11_term) := ⟨List.mem_of_getElem? (i := 124) (by decide +kernel), good_of_word (by decide +kernel)⟩
theorem dw_588 : lw_in (Cond.instanceMethod yX11_term) := ⟨List.mem_of_getElem? (i := 1638) (by decide +kernel), good_of_word (by decide +kernel)⟩
theorem dw_589 : lw_in (Cond.methodLink RX11 261 yX11_term) := ⟨List.mem_of_getElem? (i := 1636) (by decide +kernel), good_of_word (by decide +kernel)⟩
set_option maxRecDepth 100000 in
theorem dw_590 : lw_in (Cond.code yX11_comesOut cX11_comesOut 3 none) := ⟨List.mem_of_getElem? (i := 1635) rfl, good_of_word (by decide +kernel)⟩
theorem dw_591 : lw_in (Cond.selects RX11 yX11_comesOut yX11_comesOut) := ⟨List.mem_of_getElem? (i := 123) (by decide +kernel), good_of_word (by decide +kernel)⟩
theorem dw_592 : lw_in (Cond.instanceMethod yX11_comesOut) := ⟨List.mem_of_getElem? (i := 1634) (by decide +kernel), good_of_word (by decide +kernel)⟩
theorem dw_593 : lw_in (Cond.methodLink RX11 273 yX11_comesOut) := ⟨List.mem_of_getElem? (i := 1632) (by decide +kernel), good_of_word (by decide +kernel)⟩
set_option maxRecDepth 100000 in
theorem dw_594 : lw_in (Cond.code yX11_emit cX11_emit 3 none) := ⟨List.mem_of_getElem? (i := 1631) rfl, good_of_word (by decide +kernel)⟩
theorem dw_595 : lw_in (Cond.selects RX11 yX11_emit yX11_emit) := ⟨List.mem_of_getElem? (i := 122) (by decide +kernel), good_of_word (by decide +kernel)⟩
theorem dw_596 : lw_in (Cond.instanceMethod yX11_emit) := ⟨List.mem_of_getElem? (i := 1630) (by decide +kernel), good_of_word (by decide +kernel)⟩
theorem dw_597 : lw_in (Cond.methodLink RX11 267 yX11_emit) := ⟨List.mem_of_getElem? (i := 1628) (by decide +kernel), good_of_word (by decide +kernel)⟩
set_option maxRecDepth 100000 in
theorem dw_598 : lw_in (Cond.code yX11_unit cX11_unit 1 none) := ⟨List.mem_of_getElem? (i := 1627) rfl, good_of_word (by decide +kernel)⟩
theorem dw_599 : lw_in (Cond.selects RX11 yX11_read yX11_read) := ⟨List.mem_of_getElem? (i := 1552) (by decide +kernel), good_of_word (by decide +kernel)⟩
theorem dw_600 : lw_in (Cond.instanceMethod yX11_read) := ⟨List.mem_of_getElem? (i := 1551) (by decide +kernel), good_of_word (by decide +kernel)⟩
theorem dw_601 : lw_in (Cond.methodLink R_law 27 yX11_read) := ⟨List.mem_of_getElem? (i := 1550) (by decide +kernel), good_of_word (by decide +kernel)⟩
set_option maxRecDepth 100000 in
theorem dw_602 : lw_in (Cond.code yX10_place cX10_place 1 (some .int)) := ⟨List.mem_of_getElem? (i := 843) rfl, good_of_word (by decide +kernel)⟩
theorem dw_603 : lw_in (Cond.selects RX10 yX10_place yX10_place) := ⟨List.mem_of_getElem? (i := 842) (by decide +kernel), good_of_word (by decide +kernel)⟩
theorem dw_604 : lw_in (Cond.instanceMethod yX10_place) := ⟨List.mem_of_getElem? (i := 841) (by decide +kernel), good_of_word (by decide +kernel)⟩
theorem dw_605 : lw_in (Cond.methodLink R_law 28 yX10_place) := ⟨List.mem_of_getElem? (i := 840) (by decide +kernel), good_of_word (by decide +kernel)⟩
set_option maxRecDepth 100000 in
theorem dw_606 : lw_in (Cond.code yX11_place cX11_place 1 (some .int)) := ⟨List.mem_of_getElem? (i := 1643) rfl, good_of_word (by decide +kernel)⟩
theorem dw_607 : lw_in (Cond.selects RX11 yX11_place yX11_place) := ⟨List.mem_of_getElem? (i := 1642) (by decide +kernel), good_of_word (by decide +kernel)⟩
theorem dw_608 : lw_in (Cond.instanceMethod yX11_place) := ⟨List.mem_of_getElem? (i := 1641) (by decide +kernel), good_of_word (by decide +kernel)⟩
theorem dw_609 : lw_in (Cond.methodLink R_law 31 yX11_place) := ⟨List.mem_of_getElem? (i := 1640) (by decide +kernel), good_of_word (by decide +kernel)⟩
set_option maxRecDepth 100000 in
theorem dw_610 : lw_in (Cond.code yX10_wave cX10_wave 3 (some .int)) := ⟨List.mem_of_getElem? (i := 847) rfl, good_of_word (by decide +kernel)⟩
theorem dw_611 : lw_in (Cond.methodLink RX10 322 yX10_stirred) := ⟨List.mem_of_getElem? (i := 867) (by decide +kernel), good_of_word (by decide +kernel)⟩
set_option maxRecDepth 100000 in
theorem dw_612 : lw_in (Cond.code yX10_lot cX10_lot 4 (some .int)) := ⟨List.mem_of_getElem? (i := 866) rfl, good_of_word (by decide +kernel)⟩
theorem dw_613 : lw_in (Cond.static yX10_lot) := ⟨List.mem_of_getElem? (i := 865) (by decide +kernel), good_of_word (by decide +kernel)⟩
set_option maxRecDepth 100000 in
theorem dw_614 : lw_in (Cond.code yX5_thingThere cX5_thingThere 7 (some .int)) := ⟨List.mem_of_getElem? (i := 863) rfl, good_of_word (by decide +kernel)⟩
theorem dw_615 : lw_in (Cond.selects RX5 yX5_thingThere yX5_thingThere) := ⟨List.mem_of_getElem? (i := 40) (by decide +kernel), good_of_word (by decide +kernel)⟩
theorem dw_616 : lw_in (Cond.instanceMethod yX5_thingThere) := ⟨List.mem_of_getElem? (i := 862) (by decide +kernel), good_of_word (by decide +kernel)⟩
set_option maxRecDepth 100000 in
theorem dw_617 : lw_in (Cond.code yX0_thereNow cX0_thereNow 3 (some .int)) := ⟨List.mem_of_getElem? (i := 859) rfl, good_of_word (by decide +kernel)⟩
theorem dw_618 : lw_in (Cond.selects RX0 yX0_thereNow yX0_thereNow) := ⟨List.mem_of_getElem? (i := 39) (by decide +kernel), good_of_word (by decide +kernel)⟩
theorem dw_619 : lw_in (Cond.instanceMethod yX0_thereNow) := ⟨List.mem_of_getElem? (i := 858) (by decide +kernel), good_of_word (by decide +kernel)⟩
set_option maxRecDepth 100000 in
theorem dw_620 : lw_in (Cond.code yX0_mayBe cX0_mayBe 3 (some .int)) := ⟨List.mem_of_getElem? (i := 855) rfl, good_of_word (by decide +kernel)⟩
theorem dw_621 : lw_in (Cond.selects RX0 yX0_mayBe yX0_mayBe) := ⟨List.mem_of_getElem? (i := 38) (by decide +kernel), good_of_word (by decide +kernel)⟩
theorem dw_622 : lw_in (Cond.instanceMethod yX0_mayBe) := ⟨List.mem_of_getElem? (i := 854) (by decide +kernel), good_of_word (by decide +kernel)⟩
set_option maxRecDepth 100000 in
theorem dw_623 : lw_in (Cond.code yX5_hasWave cX5_hasWave 2 (some .boolean)) := ⟨List.mem_of_getElem? (i := 851) rfl, good_of_word (by decide +kernel)⟩
theorem dw_624 : lw_in (Cond.selects RX5 yX5_hasWave yX5_hasWave) := ⟨List.mem_of_getElem? (i := 37) (by decide +kernel), good_of_word (by decide +kernel)⟩
theorem dw_625 : lw_in (Cond.instanceMethod yX5_hasWave) := ⟨List.mem_of_getElem? (i := 850) (by decide +kernel), good_of_word (by decide +kernel)⟩
set_option maxRecDepth 100000 in
theorem dw_626 : lw_in (Cond.code yX0_setWave cX0_setWave 3 none) := ⟨List.mem_of_getElem? (i := 883) rfl, good_of_word (by decide +kernel)⟩
theorem dw_627 : lw_in (Cond.selects RX0 yX0_setWave yX0_setWave) := ⟨List.mem_of_getElem? (i := 43) (by decide +kernel), good_of_word (by decide +kernel)⟩
theorem dw_628 : lw_in (Cond.instanceMethod yX0_setWave) := ⟨List.mem_of_getElem? (i := 882) (by decide +kernel), good_of_word (by decide +kernel)⟩
theorem dw_629 : lw_in (Cond.methodLink RX0 89 yX0_setWave) := ⟨List.mem_of_getElem? (i := 880) (by decide +kernel), good_of_word (by decide +kernel)⟩
theorem dw_630 : lw_in (Cond.methodLink RX0 53 yJ7_fill_53178) := ⟨List.mem_of_getElem? (i := 879) (by decide +kernel), good_of_word (by decide +kernel)⟩
set_option maxRecDepth 100000 in
theorem dw_631 : lw_in (Cond.code yX0_clearVars cX0_clearVars 2 none) := ⟨List.mem_of_getElem? (i := 878) rfl, good_of_word (by decide +kernel)⟩
theorem dw_632 : lw_in (Cond.selects RX0 yX0_clearVars yX0_clearVars) := ⟨List.mem_of_getElem? (i := 42) (by decide +kernel), good_of_word (by decide +kernel)⟩
theorem dw_633 : lw_in (Cond.instanceMethod yX0_clearVars) := ⟨List.mem_of_getElem? (i := 877) (by decide +kernel), good_of_word (by decide +kernel)⟩
theorem dw_634 : lw_in (Cond.methodLink RX0 81 yX0_clearVars) := ⟨List.mem_of_getElem? (i := 875) (by decide +kernel), good_of_word (by decide +kernel)⟩
set_option maxRecDepth 100000 in
theorem dw_635 : lw_in (Cond.code yX0_shiftsOf cX0_shiftsOf 3 (some .int)) := ⟨List.mem_of_getElem? (i := 874) rfl, good_of_word (by decide +kernel)⟩
theorem dw_636 : lw_in (Cond.selects RX0 yX0_shiftsOf yX0_shiftsOf) := ⟨List.mem_of_getElem? (i := 41) (by decide +kernel), good_of_word (by decide +kernel)⟩
theorem dw_637 : lw_in (Cond.instanceMethod yX0_shiftsOf) := ⟨List.mem_of_getElem? (i := 873) (by decide +kernel), good_of_word (by decide +kernel)⟩
theorem dw_638 : lw_in (Cond.constant RX10 325 (1103515245)) := ⟨List.mem_of_getElem? (i := 870) (by decide +kernel), good_of_word (by decide +kernel)⟩
set_option maxRecDepth 100000 in
theorem dw_639 : lw_in (Cond.code yX10_stirred cX10_stirred 3 (some .int)) := ⟨List.mem_of_getElem? (i := 869) rfl, good_of_word (by decide +kernel)⟩
theorem dw_640 : lw_in (Cond.static yX10_stirred) := ⟨List.mem_of_getElem? (i := 868) (by decide +kernel), good_of_word (by decide +kernel)⟩
theorem dw_641 : lw_in (Cond.methodLink RX1 71 yX1_joined) := ⟨List.mem_of_getElem? (i := 899) (by decide +kernel), good_of_word (by decide +kernel)⟩
set_option maxRecDepth 100000 in
theorem dw_642 : lw_in (Cond.code yX1_partValue cX1_partValue 8 (some .int)) := ⟨List.mem_of_getElem? (i := 898) rfl, good_of_word (by decide +kernel)⟩
theorem dw_643 : lw_in (Cond.selects RX1 yX1_partValue yX1_partValue) := ⟨List.mem_of_getElem? (i := 45) (by decide +kernel), good_of_word (by decide +kernel)⟩
theorem dw_644 : lw_in (Cond.instanceMethod yX1_partValue) := ⟨List.mem_of_getElem? (i := 897) (by decide +kernel), good_of_word (by decide +kernel)⟩
theorem dw_645 : lw_in (Cond.methodLink RX1 67 yX1_partValue) := ⟨List.mem_of_getElem? (i := 895) (by decide +kernel), good_of_word (by decide +kernel)⟩
theorem dw_646 : lw_in (Cond.fieldLink RX1 63 "GuessFerry$Laws" "isByZero" "Z") := ⟨List.mem_of_getElem? (i := 235) (by decide +kernel), good_of_word (by decide +kernel)⟩
set_option maxRecDepth 100000 in
theorem dw_647 : lw_in (Cond.code yX1_valueOf cX1_valueOf 7 (some .int)) := ⟨List.mem_of_getElem? (i := 894) rfl, good_of_word (by decide +kernel)⟩
theorem dw_648 : lw_in (Cond.selects RX1 yX1_valueOf yX1_valueOf) := ⟨List.mem_of_getElem? (i := 44) (by decide +kernel), good_of_word (by decide +kernel)⟩
theorem dw_649 : lw_in (Cond.instanceMethod yX1_valueOf) := ⟨List.mem_of_getElem? (i := 893) (by decide +kernel), good_of_word (by decide +kernel)⟩
theorem dw_650 : lw_in (Cond.constant RJ6 267 (252645135)) := ⟨List.mem_of_getElem? (i := 890) (by decide +kernel), good_of_word (by decide +kernel)⟩
theorem dw_651 : lw_in (Cond.constant RJ6 266 (858993459)) := ⟨List.mem_of_getElem? (i := 889) (by decide +kernel), good_of_word (by decide +kernel)⟩
theorem dw_652 : lw_in (Cond.constant RJ6 265 (1431655765)) := ⟨List.mem_of_getElem? (i := 888) (by decide +kernel), good_of_word (by decide +kernel)⟩
set_option maxRecDepth 100000 in
theorem dw_653 : lw_in (Cond.code yJ6_bitCount_0f7a4 cJ6_bitCount_0f7a4 1 (some .int)) := ⟨List.mem_of_getElem? (i := 887) rfl, good_of_word (by decide +kernel)⟩
theorem dw_654 : lw_in (Cond.initialized RJ6) := ⟨List.mem_of_getElem? (i := 189) (by decide +kernel), good_of_word (by decide +kernel)⟩
theorem dw_655 : lw_in (Cond.static yJ6_bitCount_0f7a4) := ⟨List.mem_of_getElem? (i := 886) (by decide +kernel), good_of_word (by decide +kernel)⟩
theorem dw_656 : lw_in (Cond.methodLink RX0 75 yJ6_bitCount_0f7a4) := ⟨List.mem_of_getElem? (i := 885) (by decide +kernel), good_of_word (by decide +kernel)⟩
theorem dw_657 : lw_in (Cond.methodLink RX0 71 yX0_mayBe) := ⟨List.mem_of_getElem? (i := 884) (by decide +kernel), good_of_word (by decide +kernel)⟩
theorem dw_658 : lw_in (Cond.methodLink RX10 319 Lib.Math.max.name) := ⟨List.mem_of_getElem? (i := 907) (by decide +kernel), good_of_word (by decide +kernel)⟩
theorem dw_659 : lw_in (Cond.methodLink RX10 314 Lib.Math.min.name) := ⟨List.mem_of_getElem? (i := 906) (by decide +kernel), good_of_word (by decide +kernel)⟩
set_option maxRecDepth 100000 in
theorem dw_660 : lw_in (Cond.code yX10_heldTo cX10_heldTo 2 (some .int)) := ⟨List.mem_of_getElem? (i := 905) rfl, good_of_word (by decide +kernel)⟩
theorem dw_661 : lw_in (Cond.static yX10_heldTo) := ⟨List.mem_of_getElem? (i := 904) (by decide +kernel), good_of_word (by decide +kernel)⟩
set_option maxRecDepth 100000 in
theorem dw_662 : lw_in (Cond.code yX1_joined cX1_joined 4 (some .int)) := ⟨List.mem_of_getElem? (i := 902) rfl, good_of_word (by decide +kernel)⟩
theorem dw_663 : lw_in (Cond.selects RX1 yX1_joined yX1_joined) := ⟨List.mem_of_getElem? (i := 46) (by decide +kernel), good_of_word (by decide +kernel)⟩
theorem dw_664 : lw_in (Cond.instanceMethod yX1_joined) := ⟨List.mem_of_getElem? (i := 901) (by decide +kernel), good_of_word (by decide +kernel)⟩
theorem dw_665 : lw_in (Cond.selects RX10 yX10_wave yX10_wave) := ⟨List.mem_of_getElem? (i := 846) (by decide +kernel), good_of_word (by decide +kernel)⟩
theorem dw_666 : lw_in (Cond.instanceMethod yX10_wave) := ⟨List.mem_of_getElem? (i := 845) (by decide +kernel), good_of_word (by decide +kernel)⟩
theorem dw_667 : lw_in (Cond.methodLink R_law 32 yX10_wave) := ⟨List.mem_of_getElem? (i := 844) (by decide +kernel), good_of_word (by decide +kernel)⟩
set_option maxRecDepth 100000 in
theorem dw_668 : lw_in (Cond.code yX11_wave cX11_wave 3 (some .int)) := ⟨List.mem_of_getElem? (i := 1647) rfl, good_of_word (by decide +kernel)⟩
theorem dw_669 : lw_in (Cond.instanceMethod yX11_oddsAt) := ⟨List.mem_of_getElem? (i := 1665) (by decide +kernel), good_of_word (by decide +kernel)⟩
theorem dw_670 : lw_in (Cond.methodLink RX11 297 yX11_oddsAt) := ⟨List.mem_of_getElem? (i := 1663) (by decide +kernel), good_of_word (by decide +kernel)⟩
set_option maxRecDepth 100000 in
theorem dw_671 : lw_in (Cond.code yX11_mayAt cX11_mayAt 4 (some .int)) := ⟨List.mem_of_getElem? (i := 1662) rfl, good_of_word (by decide +kernel)⟩
theorem dw_672 : lw_in (Cond.selects RX11 yX11_mayAt yX11_mayAt) := ⟨List.mem_of_getElem? (i := 127) (by decide +kernel), good_of_word (by decide +kernel)⟩
theorem dw_673 : lw_in (Cond.instanceMethod yX11_mayAt) := ⟨List.mem_of_getElem? (i := 1661) (by decide +kernel), good_of_word (by decide +kernel)⟩
theorem dw_674 : lw_in (Cond.methodLink RX11 309 yX11_mayAt) := ⟨List.mem_of_getElem? (i := 1659) (by decide +kernel), good_of_word (by decide +kernel)⟩
set_option maxRecDepth 100000 in
theorem dw_675 : lw_in (Cond.code yX11_copies cX11_copies 2 none) := ⟨List.mem_of_getElem? (i := 1658) rfl, good_of_word (by decide +kernel)⟩
theorem dw_676 : lw_in (Cond.selects RX11 yX11_copies yX11_copies) := ⟨List.mem_of_getElem? (i := 126) (by decide +kernel), good_of_word (by decide +kernel)⟩
theorem dw_677 : lw_in (Cond.instanceMethod yX11_copies) := ⟨List.mem_of_getElem? (i := 1657) (by decide +kernel), good_of_word (by decide +kernel)⟩
theorem dw_678 : lw_in (Cond.methodLink RX11 352 yX11_copies) := ⟨List.mem_of_getElem? (i := 1655) (by decide +kernel), good_of_word (by decide +kernel)⟩
set_option maxRecDepth 100000 in
theorem dw_679 : lw_in (Cond.code yX11_in cX11_in 3 (some .boolean)) := ⟨List.mem_of_getElem? (i := 1654) rfl, good_of_word (by decide +kernel)⟩
theorem dw_680 : lw_in (Cond.static yX11_in) := ⟨List.mem_of_getElem? (i := 1653) (by decide +kernel), good_of_word (by decide +kernel)⟩
theorem dw_681 : lw_in (Cond.methodLink RX11 281 yX11_in) := ⟨List.mem_of_getElem? (i := 1652) (by decide +kernel), good_of_word (by decide +kernel)⟩
set_option maxRecDepth 100000 in
theorem dw_682 : lw_in (Cond.code yX11_isWave cX11_isWave 2 (some .boolean)) := ⟨List.mem_of_getElem? (i := 1651) rfl, good_of_word (by decide +kernel)⟩
theorem dw_683 : lw_in (Cond.selects RX11 yX11_isWave yX11_isWave) := ⟨List.mem_of_getElem? (i := 125) (by decide +kernel), good_of_word (by decide +kernel)⟩
theorem dw_684 : lw_in (Cond.instanceMethod yX11_isWave) := ⟨List.mem_of_getElem? (i := 1650) (by decide +kernel), good_of_word (by decide +kernel)⟩
theorem dw_685 : lw_in (Cond.methodLink RX11 349 yX11_isWave) := ⟨List.mem_of_getElem? (i := 1648) (by decide +kernel), good_of_word (by decide +kernel)⟩
set_option maxRecDepth 100000 in
theorem dw_686 : lw_in (Cond.code yX11_looks cX11_looks 3 none) := ⟨List.mem_of_getElem? (i := 1686) rfl, good_of_word (by decide +kernel)⟩
theorem dw_687 : lw_in (Cond.selects RX11 yX11_looks yX11_looks) := ⟨List.mem_of_getElem? (i := 132) (by decide +kernel), good_of_word (by decide +kernel)⟩
theorem dw_688 : lw_in (Cond.instanceMethod yX11_looks) := ⟨List.mem_of_getElem? (i := 1685) (by decide +kernel), good_of_word (by decide +kernel)⟩
theorem dw_689 : lw_in (Cond.methodLink RX11 315 yX11_looks) := ⟨List.mem_of_getElem? (i := 1683) (by decide +kernel), good_of_word (by decide +kernel)⟩
set_option maxRecDepth 100000 in
theorem dw_690 : lw_in (Cond.code yX11_shiftsOf cX11_shiftsOf 2 (some .int)) := ⟨List.mem_of_getElem? (i := 1682) rfl, good_of_word (by decide +kernel)⟩
theorem dw_691 : lw_in (Cond.selects RX11 yX11_shiftsOf yX11_shiftsOf) := ⟨List.mem_of_getElem? (i := 131) (by decide +kernel), good_of_word (by decide +kernel)⟩
theorem dw_692 : lw_in (Cond.instanceMethod yX11_shiftsOf) := ⟨List.mem_of_getElem? (i := 1681) (by decide +kernel), good_of_word (by decide +kernel)⟩
theorem dw_693 : lw_in (Cond.methodLink RX11 343 yX11_shiftsOf) := ⟨List.mem_of_getElem? (i := 1679) (by decide +kernel), good_of_word (by decide +kernel)⟩
theorem dw_694 : lw_in (Cond.constant RX11 292 (1103515245)) := ⟨List.mem_of_getElem? (i := 1678) (by decide +kernel), good_of_word (by decide +kernel)⟩
set_option maxRecDepth 100000 in
theorem dw_695 : lw_in (Cond.code yX11_mixed cX11_mixed 3 (some .int)) := ⟨List.mem_of_getElem? (i := 1677) rfl, good_of_word (by decide +kernel)⟩
theorem dw_696 : lw_in (Cond.static yX11_mixed) := ⟨List.mem_of_getElem? (i := 1676) (by decide +kernel), good_of_word (by decide +kernel)⟩
theorem dw_697 : lw_in (Cond.methodLink RX11 293 yX11_mixed) := ⟨List.mem_of_getElem? (i := 1675) (by decide +kernel), good_of_word (by decide +kernel)⟩
set_option maxRecDepth 100000 in
theorem dw_698 : lw_in (Cond.code yX11_lotOf cX11_lotOf 3 (some .int)) := ⟨List.mem_of_getElem? (i := 1674) rfl, good_of_word (by decide +kernel)⟩
theorem dw_699 : lw_in (Cond.selects RX11 yX11_lotOf yX11_lotOf) := ⟨List.mem_of_getElem? (i := 130) (by decide +kernel), good_of_word (by decide +kernel)⟩
theorem dw_700 : lw_in (Cond.instanceMethod yX11_lotOf) := ⟨List.mem_of_getElem? (i := 1673) (by decide +kernel), good_of_word (by decide +kernel)⟩
theorem dw_701 : lw_in (Cond.methodLink RX11 300 yX11_lotOf) := ⟨List.mem_of_getElem? (i := 1671) (by decide +kernel), good_of_word (by decide +kernel)⟩
set_option maxRecDepth 100000 in
theorem dw_702 : lw_in (Cond.code yX11_thereAt cX11_thereAt 5 (some .int)) := ⟨List.mem_of_getElem? (i := 1670) rfl, good_of_word (by decide +kernel)⟩
theorem dw_703 : lw_in (Cond.selects RX11 yX11_thereAt yX11_thereAt) := ⟨List.mem_of_getElem? (i := 129) (by decide +kernel), good_of_word (by decide +kernel)⟩
theorem dw_704 : lw_in (Cond.instanceMethod yX11_thereAt) := ⟨List.mem_of_getElem? (i := 1669) (by decide +kernel), good_of_word (by decide +kernel)⟩
theorem dw_705 : lw_in (Cond.methodLink RX11 303 yX11_thereAt) := ⟨List.mem_of_getElem? (i := 1667) (by decide +kernel), good_of_word (by decide +kernel)⟩
set_option maxRecDepth 100000 in
theorem dw_706 : lw_in (Cond.code yX11_oddsAt cX11_oddsAt 3 (some .int)) := ⟨List.mem_of_getElem? (i := 1666) rfl, good_of_word (by decide +kernel)⟩
theorem dw_707 : lw_in (Cond.selects RX11 yX11_oddsAt yX11_oddsAt) := ⟨List.mem_of_getElem? (i := 128) (by decide +kernel), good_of_word (by decide +kernel)⟩
theorem dw_708 : lw_in (Cond.selects RX11 yX11_termOf yX11_termOf) := ⟨List.mem_of_getElem? (i := 135) (by decide +kernel), good_of_word (by decide +kernel)⟩
theorem dw_709 : lw_in (Cond.instanceMethod yX11_termOf) := ⟨List.mem_of_getElem? (i := 1700) (by decide +kernel), good_of_word (by decide +kernel)⟩
theorem dw_710 : lw_in (Cond.methodLink RX11 306 yX11_termOf) := ⟨List.mem_of_getElem? (i := 1698) (by decide +kernel), good_of_word (by decide +kernel)⟩
theorem dw_711 : lw_in (Cond.fieldLink RX11 277 "GuessFerryModel" "isBroken" "Z") := ⟨List.mem_of_getElem? (i := 1405) (by decide +kernel), good_of_word (by decide +kernel)⟩
set_option maxRecDepth 100000 in
theorem dw_712 : lw_in (Cond.code yX11_lawTells cX11_lawTells 7 (some .int)) := ⟨List.mem_of_getElem? (i := 1697) rfl, good_of_word (by decide +kernel)⟩
theorem dw_713 : lw_in (Cond.selects RX11 yX11_lawTells yX11_lawTells) := ⟨List.mem_of_getElem? (i := 134) (by decide +kernel), good_of_word (by decide +kernel)⟩
theorem dw_714 : lw_in (Cond.instanceMethod yX11_lawTells) := ⟨List.mem_of_getElem? (i := 1696) (by decide +kernel), good_of_word (by decide +kernel)⟩
theorem dw_715 : lw_in (Cond.methodLink RX11 321 yX11_lawTells) := ⟨List.mem_of_getElem? (i := 1694) (by decide +kernel), good_of_word (by decide +kernel)⟩
set_option maxRecDepth 100000 in
theorem dw_716 : lw_in (Cond.code yX11_bits cX11_bits 3 (some .int)) := ⟨List.mem_of_getElem? (i := 1693) rfl, good_of_word (by decide +kernel)⟩
theorem dw_717 : lw_in (Cond.static yX11_bits) := ⟨List.mem_of_getElem? (i := 1692) (by decide +kernel), good_of_word (by decide +kernel)⟩
theorem dw_718 : lw_in (Cond.methodLink RX11 312 yX11_bits) := ⟨List.mem_of_getElem? (i := 1691) (by decide +kernel), good_of_word (by decide +kernel)⟩
set_option maxRecDepth 100000 in
theorem dw_719 : lw_in (Cond.code yX11_looksOver cX11_looksOver 2 none) := ⟨List.mem_of_getElem? (i := 1690) rfl, good_of_word (by decide +kernel)⟩
theorem dw_720 : lw_in (Cond.selects RX11 yX11_looksOver yX11_looksOver) := ⟨List.mem_of_getElem? (i := 133) (by decide +kernel), good_of_word (by decide +kernel)⟩
theorem dw_721 : lw_in (Cond.instanceMethod yX11_looksOver) := ⟨List.mem_of_getElem? (i := 1689) (by decide +kernel), good_of_word (by decide +kernel)⟩
theorem dw_722 : lw_in (Cond.methodLink RX11 318 yX11_looksOver) := ⟨List.mem_of_getElem? (i := 1687) (by decide +kernel), good_of_word (by decide +kernel)⟩
set_option maxRecDepth 100000 in
theorem dw_723 : lw_in (Cond.code yX11_within cX11_within 3 (some .int)) := ⟨List.mem_of_getElem? (i := 1704) rfl, good_of_word (by decide +kernel)⟩
theorem dw_724 : lw_in (Cond.static yX11_within) := ⟨List.mem_of_getElem? (i := 1703) (by decide +kernel), good_of_word (by decide +kernel)⟩
theorem dw_725 : lw_in (Cond.methodLink RX11 324 yX11_within) := ⟨List.mem_of_getElem? (i := 1702) (by decide +kernel), good_of_word (by decide +kernel)⟩
set_option maxRecDepth 100000 in
theorem dw_726 : lw_in (Cond.code yX11_termOf cX11_termOf 8 (some .int)) := ⟨List.mem_of_getElem? (i := 1701) rfl, good_of_word (by decide +kernel)⟩
theorem dw_727 : lw_in (Cond.selects RX11 yX11_wave yX11_wave) := ⟨List.mem_of_getElem? (i := 1646) (by decide +kernel), good_of_word (by decide +kernel)⟩
theorem dw_728 : lw_in (Cond.instanceMethod yX11_wave) := ⟨List.mem_of_getElem? (i := 1645) (by decide +kernel), good_of_word (by decide +kernel)⟩
theorem dw_729 : lw_in (Cond.methodLink R_law 36 yX11_wave) := ⟨List.mem_of_getElem? (i := 1644) (by decide +kernel), good_of_word (by decide +kernel)⟩
set_option maxRecDepth 100000 in
theorem dw_730 : lw_in (Cond.code yX10_odds cX10_odds 3 (some .int)) := ⟨List.mem_of_getElem? (i := 911) rfl, good_of_word (by decide +kernel)⟩
set_option maxRecDepth 100000 in
theorem dw_731 : lw_in (Cond.code yX10_isThing cX10_isThing 1 (some .boolean)) := ⟨List.mem_of_getElem? (i := 914) rfl, good_of_word (by decide +kernel)⟩
theorem dw_732 : lw_in (Cond.static yX10_isThing) := ⟨List.mem_of_getElem? (i := 913) (by decide +kernel), good_of_word (by decide +kernel)⟩
theorem dw_733 : lw_in (Cond.methodLink RX10 131 yX10_isThing) := ⟨List.mem_of_getElem? (i := 912) (by decide +kernel), good_of_word (by decide +kernel)⟩
theorem dw_734 : lw_in (Cond.selects RX10 yX10_odds yX10_odds) := ⟨List.mem_of_getElem? (i := 910) (by decide +kernel), good_of_word (by decide +kernel)⟩
theorem dw_735 : lw_in (Cond.instanceMethod yX10_odds) := ⟨List.mem_of_getElem? (i := 909) (by decide +kernel), good_of_word (by decide +kernel)⟩
theorem dw_736 : lw_in (Cond.methodLink R_law 37 yX10_odds) := ⟨List.mem_of_getElem? (i := 908) (by decide +kernel), good_of_word (by decide +kernel)⟩
set_option maxRecDepth 100000 in
theorem dw_737 : lw_in (Cond.code yX11_odds cX11_odds 3 (some .int)) := ⟨List.mem_of_getElem? (i := 1708) rfl, good_of_word (by decide +kernel)⟩
set_option maxRecDepth 100000 in
theorem dw_738 : lw_in (Cond.code yX11_isThing cX11_isThing 1 (some .boolean)) := ⟨List.mem_of_getElem? (i := 1711) rfl, good_of_word (by decide +kernel)⟩
theorem dw_739 : lw_in (Cond.static yX11_isThing) := ⟨List.mem_of_getElem? (i := 1710) (by decide +kernel), good_of_word (by decide +kernel)⟩
theorem dw_740 : lw_in (Cond.methodLink RX11 355 yX11_isThing) := ⟨List.mem_of_getElem? (i := 1709) (by decide +kernel), good_of_word (by decide +kernel)⟩
theorem dw_741 : lw_in (Cond.selects RX11 yX11_odds yX11_odds) := ⟨List.mem_of_getElem? (i := 1707) (by decide +kernel), good_of_word (by decide +kernel)⟩
theorem dw_742 : lw_in (Cond.instanceMethod yX11_odds) := ⟨List.mem_of_getElem? (i := 1706) (by decide +kernel), good_of_word (by decide +kernel)⟩
theorem dw_743 : lw_in (Cond.methodLink R_law 40 yX11_odds) := ⟨List.mem_of_getElem? (i := 1705) (by decide +kernel), good_of_word (by decide +kernel)⟩
set_option maxRecDepth 100000 in
theorem dw_744 : lw_in (Cond.code yX10_party cX10_party 3 (some .int)) := ⟨List.mem_of_getElem? (i := 919) rfl, good_of_word (by decide +kernel)⟩
theorem dw_745 : lw_in (Cond.instanceMethod yX0_setParty) := ⟨List.mem_of_getElem? (i := 930) (by decide +kernel), good_of_word (by decide +kernel)⟩
theorem dw_746 : lw_in (Cond.methodLink RX0 85 yX0_setParty) := ⟨List.mem_of_getElem? (i := 928) (by decide +kernel), good_of_word (by decide +kernel)⟩
set_option maxRecDepth 100000 in
theorem dw_747 : lw_in (Cond.code yX0_fareOf cX0_fareOf 3 (some .int)) := ⟨List.mem_of_getElem? (i := 927) rfl, good_of_word (by decide +kernel)⟩
theorem dw_748 : lw_in (Cond.selects RX0 yX0_fareOf yX0_fareOf) := ⟨List.mem_of_getElem? (i := 48) (by decide +kernel), good_of_word (by decide +kernel)⟩
theorem dw_749 : lw_in (Cond.instanceMethod yX0_fareOf) := ⟨List.mem_of_getElem? (i := 926) (by decide +kernel), good_of_word (by decide +kernel)⟩
