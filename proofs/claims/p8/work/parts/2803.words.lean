theorem dw_750 : lw_in (Cond.methodLink R_law 53 yX11_go) := ⟨lw_t (tm_7 (List.mem_of_getElem? (i := 128) rfl)), good_of_word (by decide +kernel)⟩
set_option maxRecDepth 100000 in
theorem dw_751 : lw_in (Cond.code yX10_buoy cX10_buoy 4 (some .boolean)) := ⟨lw_t (tm_4 (List.mem_of_getElem? (i := 95) rfl)), good_of_word (by decide +kernel)⟩
theorem dw_752 : lw_in (Cond.static yX10_has) := ⟨lw_t (tm_4 (List.mem_of_getElem? (i := 97) rfl)), good_of_word (by decide +kernel)⟩
theorem dw_753 : lw_in (Cond.methodLink RX10 181 yX10_has) := ⟨lw_t (tm_4 (List.mem_of_getElem? (i := 96) rfl)), good_of_word (by decide +kernel)⟩
set_option maxRecDepth 100000 in
theorem dw_754 : lw_in (Cond.code yX10_has cX10_has 2 (some .boolean)) := ⟨lw_t (tm_4 (List.mem_of_getElem? (i := 98) rfl)), good_of_word (by decide +kernel)⟩
theorem dw_755 : lw_in (Cond.selects RX10 yX10_buoy yX10_buoy) := ⟨lw_t (tm_4 (List.mem_of_getElem? (i := 94) rfl)), good_of_word (by decide +kernel)⟩
theorem dw_756 : lw_in (Cond.instanceMethod yX10_buoy) := ⟨lw_t (tm_4 (List.mem_of_getElem? (i := 93) rfl)), good_of_word (by decide +kernel)⟩
theorem dw_757 : lw_in (Cond.methodLink R_law 54 yX10_buoy) := ⟨lw_t (tm_4 (List.mem_of_getElem? (i := 92) rfl)), good_of_word (by decide +kernel)⟩
set_option maxRecDepth 100000 in
theorem dw_758 : lw_in (Cond.code yX11_buoy cX11_buoy 4 (some .boolean)) := ⟨lw_t (tm_7 (List.mem_of_getElem? (i := 171) rfl)), good_of_word (by decide +kernel)⟩
theorem dw_759 : lw_in (Cond.selects RX11 yX11_buoy yX11_buoy) := ⟨lw_t (tm_7 (List.mem_of_getElem? (i := 170) rfl)), good_of_word (by decide +kernel)⟩
theorem dw_760 : lw_in (Cond.instanceMethod yX11_buoy) := ⟨lw_t (tm_7 (List.mem_of_getElem? (i := 169) rfl)), good_of_word (by decide +kernel)⟩
theorem dw_761 : lw_in (Cond.methodLink R_law 58 yX11_buoy) := ⟨lw_t (tm_7 (List.mem_of_getElem? (i := 168) rfl)), good_of_word (by decide +kernel)⟩
set_option maxRecDepth 100000 in
theorem dw_762 : lw_in (Cond.code yX10_fetch cX10_fetch 2 (some .boolean)) := ⟨lw_t (tm_4 (List.mem_of_getElem? (i := 102) rfl)), good_of_word (by decide +kernel)⟩
theorem dw_763 : lw_in (Cond.selects RX10 yX10_fetch yX10_fetch) := ⟨lw_t (tm_4 (List.mem_of_getElem? (i := 101) rfl)), good_of_word (by decide +kernel)⟩
theorem dw_764 : lw_in (Cond.instanceMethod yX10_fetch) := ⟨lw_t (tm_4 (List.mem_of_getElem? (i := 100) rfl)), good_of_word (by decide +kernel)⟩
theorem dw_765 : lw_in (Cond.methodLink R_law 59 yX10_fetch) := ⟨lw_t (tm_4 (List.mem_of_getElem? (i := 99) rfl)), good_of_word (by decide +kernel)⟩
set_option maxRecDepth 100000 in
theorem dw_766 : lw_in (Cond.code yX11_fetch cX11_fetch 2 (some .boolean)) := ⟨lw_t (tm_7 (List.mem_of_getElem? (i := 175) rfl)), good_of_word (by decide +kernel)⟩
theorem dw_767 : lw_in (Cond.selects RX11 yX11_fetch yX11_fetch) := ⟨lw_t (tm_7 (List.mem_of_getElem? (i := 174) rfl)), good_of_word (by decide +kernel)⟩
theorem dw_768 : lw_in (Cond.instanceMethod yX11_fetch) := ⟨lw_t (tm_7 (List.mem_of_getElem? (i := 173) rfl)), good_of_word (by decide +kernel)⟩
theorem dw_769 : lw_in (Cond.methodLink R_law 63 yX11_fetch) := ⟨lw_t (tm_7 (List.mem_of_getElem? (i := 172) rfl)), good_of_word (by decide +kernel)⟩
set_option maxRecDepth 100000 in
theorem dw_770 : lw_in (Cond.code yX10_years cX10_years 2 (some .int)) := ⟨lw_t (tm_4 (List.mem_of_getElem? (i := 106) rfl)), good_of_word (by decide +kernel)⟩
theorem dw_771 : lw_in (Cond.selects RX0 yX0_passYears yX0_passYears) := ⟨List.mem_of_getElem? (i := 58) rfl, good_of_word (by decide +kernel)⟩
theorem dw_772 : lw_in (Cond.instanceMethod yX0_passYears) := ⟨lw_t (tm_4 (List.mem_of_getElem? (i := 109) rfl)), good_of_word (by decide +kernel)⟩
set_option maxRecDepth 100000 in
theorem dw_773 : lw_in (Cond.code yX0_passYears cX0_passYears 5 none) := ⟨lw_t (tm_4 (List.mem_of_getElem? (i := 110) rfl)), good_of_word (by decide +kernel)⟩
theorem dw_774 : lw_in (Cond.selects RX0 yX0_passYearOver yX0_passYearOver) := ⟨List.mem_of_getElem? (i := 59) rfl, good_of_word (by decide +kernel)⟩
theorem dw_775 : lw_in (Cond.instanceMethod yX0_passYearOver) := ⟨lw_t (tm_4 (List.mem_of_getElem? (i := 113) rfl)), good_of_word (by decide +kernel)⟩
theorem dw_776 : lw_in (Cond.methodLink RX0 125 yX0_passYearOver) := ⟨lw_t (tm_4 (List.mem_of_getElem? (i := 111) rfl)), good_of_word (by decide +kernel)⟩
set_option maxRecDepth 100000 in
theorem dw_777 : lw_in (Cond.code yX0_passYearOver cX0_passYearOver 4 none) := ⟨lw_t (tm_4 (List.mem_of_getElem? (i := 114) rfl)), good_of_word (by decide +kernel)⟩
theorem dw_778 : lw_in (Cond.methodLink RX0 132 yX0_shiftsOf) := ⟨lw_t (tm_4 (List.mem_of_getElem? (i := 117) rfl)), good_of_word (by decide +kernel)⟩
theorem dw_779 : lw_in (Cond.constant RX0 128 (1000000)) := ⟨lw_t (tm_4 (List.mem_of_getElem? (i := 115) rfl)), good_of_word (by decide +kernel)⟩
theorem dw_780 : lw_in (Cond.selects RX10 yX10_years yX10_years) := ⟨lw_t (tm_4 (List.mem_of_getElem? (i := 105) rfl)), good_of_word (by decide +kernel)⟩
theorem dw_781 : lw_in (Cond.instanceMethod yX10_years) := ⟨lw_t (tm_4 (List.mem_of_getElem? (i := 104) rfl)), good_of_word (by decide +kernel)⟩
theorem dw_782 : lw_in (Cond.methodLink R_law 64 yX10_years) := ⟨lw_t (tm_4 (List.mem_of_getElem? (i := 103) rfl)), good_of_word (by decide +kernel)⟩
set_option maxRecDepth 100000 in
theorem dw_783 : lw_in (Cond.code yX11_years cX11_years 2 (some .int)) := ⟨lw_t (tm_7 (List.mem_of_getElem? (i := 179) rfl)), good_of_word (by decide +kernel)⟩
theorem dw_784 : lw_in (Cond.selects RX11 yX11_yearsGo yX11_yearsGo) := ⟨List.mem_of_getElem? (i := 149) rfl, good_of_word (by decide +kernel)⟩
theorem dw_785 : lw_in (Cond.instanceMethod yX11_yearsGo) := ⟨lw_t (tm_7 (List.mem_of_getElem? (i := 185) rfl)), good_of_word (by decide +kernel)⟩
theorem dw_786 : lw_in (Cond.methodLink RX11 382 yX11_yearsGo) := ⟨lw_t (tm_7 (List.mem_of_getElem? (i := 183) rfl)), good_of_word (by decide +kernel)⟩
theorem dw_787 : lw_in (Cond.static yX11_isLong) := ⟨lw_t (tm_7 (List.mem_of_getElem? (i := 181) rfl)), good_of_word (by decide +kernel)⟩
theorem dw_788 : lw_in (Cond.methodLink RX11 379 yX11_isLong) := ⟨lw_t (tm_7 (List.mem_of_getElem? (i := 180) rfl)), good_of_word (by decide +kernel)⟩
set_option maxRecDepth 100000 in
theorem dw_789 : lw_in (Cond.code yX11_isLong cX11_isLong 1 (some .boolean)) := ⟨lw_t (tm_7 (List.mem_of_getElem? (i := 182) rfl)), good_of_word (by decide +kernel)⟩
set_option maxRecDepth 100000 in
theorem dw_790 : lw_in (Cond.code yX11_yearsGo cX11_yearsGo 3 none) := ⟨lw_t (tm_7 (List.mem_of_getElem? (i := 186) rfl)), good_of_word (by decide +kernel)⟩
theorem dw_791 : lw_in (Cond.selects RX11 yX11_yearGoes yX11_yearGoes) := ⟨List.mem_of_getElem? (i := 150) rfl, good_of_word (by decide +kernel)⟩
theorem dw_792 : lw_in (Cond.instanceMethod yX11_yearGoes) := ⟨lw_t (tm_7 (List.mem_of_getElem? (i := 189) rfl)), good_of_word (by decide +kernel)⟩
theorem dw_793 : lw_in (Cond.methodLink RX11 346 yX11_yearGoes) := ⟨lw_t (tm_7 (List.mem_of_getElem? (i := 187) rfl)), good_of_word (by decide +kernel)⟩
set_option maxRecDepth 100000 in
theorem dw_794 : lw_in (Cond.code yX11_yearGoes cX11_yearGoes 2 none) := ⟨lw_t (tm_7 (List.mem_of_getElem? (i := 190) rfl)), good_of_word (by decide +kernel)⟩
theorem dw_795 : lw_in (Cond.constant RX11 342 (1000000)) := ⟨lw_t (tm_7 (List.mem_of_getElem? (i := 191) rfl)), good_of_word (by decide +kernel)⟩
theorem dw_796 : lw_in (Cond.fieldLink RX11 107 "GuessFerryModel" "shiftsNow" "[Z") := ⟨lw_t (tm_6 (List.mem_of_getElem? (i := 42) rfl)), good_of_word (by decide +kernel)⟩
theorem dw_797 : lw_in (Cond.selects RX11 yX11_years yX11_years) := ⟨lw_t (tm_7 (List.mem_of_getElem? (i := 178) rfl)), good_of_word (by decide +kernel)⟩
theorem dw_798 : lw_in (Cond.instanceMethod yX11_years) := ⟨lw_t (tm_7 (List.mem_of_getElem? (i := 177) rfl)), good_of_word (by decide +kernel)⟩
theorem dw_799 : lw_in (Cond.methodLink R_law 67 yX11_years) := ⟨lw_t (tm_7 (List.mem_of_getElem? (i := 176) rfl)), good_of_word (by decide +kernel)⟩
set_option maxRecDepth 100000 in
theorem dw_800 : lw_in (Cond.code yX10_undo cX10_undo 1 (some .boolean)) := ⟨lw_t (tm_4 (List.mem_of_getElem? (i := 121) rfl)), good_of_word (by decide +kernel)⟩
theorem dw_801 : lw_in (Cond.selects RX3 yX3_takeBack yX3_takeBack) := ⟨List.mem_of_getElem? (i := 60) rfl, good_of_word (by decide +kernel)⟩
theorem dw_802 : lw_in (Cond.instanceMethod yX3_takeBack) := ⟨lw_t (tm_4 (List.mem_of_getElem? (i := 124) rfl)), good_of_word (by decide +kernel)⟩
set_option maxRecDepth 100000 in
theorem dw_803 : lw_in (Cond.code yX3_takeBack cX3_takeBack 2 (some .boolean)) := ⟨lw_t (tm_4 (List.mem_of_getElem? (i := 125) rfl)), good_of_word (by decide +kernel)⟩
theorem dw_804 : lw_in (Cond.selects RX10 yX10_undo yX10_undo) := ⟨lw_t (tm_4 (List.mem_of_getElem? (i := 120) rfl)), good_of_word (by decide +kernel)⟩
theorem dw_805 : lw_in (Cond.instanceMethod yX10_undo) := ⟨lw_t (tm_4 (List.mem_of_getElem? (i := 119) rfl)), good_of_word (by decide +kernel)⟩
theorem dw_806 : lw_in (Cond.methodLink R_law 68 yX10_undo) := ⟨lw_t (tm_4 (List.mem_of_getElem? (i := 118) rfl)), good_of_word (by decide +kernel)⟩
set_option maxRecDepth 100000 in
theorem dw_807 : lw_in (Cond.code yX11_undo cX11_undo 2 (some .boolean)) := ⟨lw_t (tm_7 (List.mem_of_getElem? (i := 195) rfl)), good_of_word (by decide +kernel)⟩
theorem dw_808 : lw_in (Cond.selects RX11 yX11_undo yX11_undo) := ⟨lw_t (tm_7 (List.mem_of_getElem? (i := 194) rfl)), good_of_word (by decide +kernel)⟩
theorem dw_809 : lw_in (Cond.instanceMethod yX11_undo) := ⟨lw_t (tm_7 (List.mem_of_getElem? (i := 193) rfl)), good_of_word (by decide +kernel)⟩
theorem dw_810 : lw_in (Cond.methodLink R_law 72 yX11_undo) := ⟨lw_t (tm_7 (List.mem_of_getElem? (i := 192) rfl)), good_of_word (by decide +kernel)⟩
set_option maxRecDepth 100000 in
theorem dw_811 : lw_in (Cond.code yX10_cases cX10_cases 1 (some .int)) := ⟨lw_t (tm_4 (List.mem_of_getElem? (i := 129) rfl)), good_of_word (by decide +kernel)⟩
theorem dw_812 : lw_in (Cond.selects RX2 yX2_caseCount yX2_caseCount) := ⟨List.mem_of_getElem? (i := 61) rfl, good_of_word (by decide +kernel)⟩
theorem dw_813 : lw_in (Cond.initialized RX2) := ⟨lw_t (tm_1 (List.mem_of_getElem? (i := 14) rfl)), good_of_word (by decide +kernel)⟩
theorem dw_814 : lw_in (Cond.instanceMethod yX2_caseCount) := ⟨lw_t (tm_4 (List.mem_of_getElem? (i := 132) rfl)), good_of_word (by decide +kernel)⟩
theorem dw_815 : lw_in (Cond.fieldLink RX10 63 "GuessFerry" "outlook" "LGuessFerry$Outlook;") := ⟨lw_t (tm_2 (List.mem_of_getElem? (i := 206) rfl)), good_of_word (by decide +kernel)⟩
set_option maxRecDepth 100000 in
theorem dw_816 : lw_in (Cond.code yX2_caseCount cX2_caseCount 4 (some .int)) := ⟨lw_t (tm_4 (List.mem_of_getElem? (i := 133) rfl)), good_of_word (by decide +kernel)⟩
theorem dw_817 : lw_in (Cond.selects RX2 yX2_mayCount yX2_mayCount) := ⟨List.mem_of_getElem? (i := 62) rfl, good_of_word (by decide +kernel)⟩
theorem dw_818 : lw_in (Cond.instanceMethod yX2_mayCount) := ⟨lw_t (tm_4 (List.mem_of_getElem? (i := 136) rfl)), good_of_word (by decide +kernel)⟩
theorem dw_819 : lw_in (Cond.methodLink RX2 50 yX2_mayCount) := ⟨lw_t (tm_4 (List.mem_of_getElem? (i := 134) rfl)), good_of_word (by decide +kernel)⟩
theorem dw_820 : lw_in (Cond.fieldLink RX2 24 "GuessFerry$Outlook" "sound" "LGuessFerry$Sound;") := ⟨lw_t (tm_2 (List.mem_of_getElem? (i := 141) rfl)), good_of_word (by decide +kernel)⟩
set_option maxRecDepth 100000 in
theorem dw_821 : lw_in (Cond.code yX2_mayCount cX2_mayCount 3 (some .int)) := ⟨lw_t (tm_4 (List.mem_of_getElem? (i := 137) rfl)), good_of_word (by decide +kernel)⟩
theorem dw_822 : lw_in (Cond.methodLink RX2 38 yJ6_bitCount_0f7a4) := ⟨lw_t (tm_4 (List.mem_of_getElem? (i := 139) rfl)), good_of_word (by decide +kernel)⟩
theorem dw_823 : lw_in (Cond.fieldLink RX2 28 "GuessFerry$Outlook" "crossing" "LGuessFerry$Crossing;") := ⟨lw_t (tm_2 (List.mem_of_getElem? (i := 142) rfl)), good_of_word (by decide +kernel)⟩
theorem dw_824 : lw_in (Cond.selects RX10 yX10_cases yX10_cases) := ⟨lw_t (tm_4 (List.mem_of_getElem? (i := 128) rfl)), good_of_word (by decide +kernel)⟩
theorem dw_825 : lw_in (Cond.instanceMethod yX10_cases) := ⟨lw_t (tm_4 (List.mem_of_getElem? (i := 127) rfl)), good_of_word (by decide +kernel)⟩
theorem dw_826 : lw_in (Cond.methodLink R_law 73 yX10_cases) := ⟨lw_t (tm_4 (List.mem_of_getElem? (i := 126) rfl)), good_of_word (by decide +kernel)⟩
set_option maxRecDepth 100000 in
theorem dw_827 : lw_in (Cond.code yX11_cases cX11_cases 1 (some .int)) := ⟨lw_t (tm_7 (List.mem_of_getElem? (i := 199) rfl)), good_of_word (by decide +kernel)⟩
theorem dw_828 : lw_in (Cond.selects RX11 yX11_casesNow yX11_casesNow) := ⟨List.mem_of_getElem? (i := 151) rfl, good_of_word (by decide +kernel)⟩
theorem dw_829 : lw_in (Cond.instanceMethod yX11_casesNow) := ⟨lw_t (tm_7 (List.mem_of_getElem? (i := 202) rfl)), good_of_word (by decide +kernel)⟩
theorem dw_830 : lw_in (Cond.methodLink RX11 385 yX11_casesNow) := ⟨lw_t (tm_7 (List.mem_of_getElem? (i := 200) rfl)), good_of_word (by decide +kernel)⟩
set_option maxRecDepth 100000 in
theorem dw_831 : lw_in (Cond.code yX11_casesNow cX11_casesNow 3 (some .int)) := ⟨lw_t (tm_7 (List.mem_of_getElem? (i := 203) rfl)), good_of_word (by decide +kernel)⟩
theorem dw_832 : lw_in (Cond.selects RX11 yX11_cases yX11_cases) := ⟨lw_t (tm_7 (List.mem_of_getElem? (i := 198) rfl)), good_of_word (by decide +kernel)⟩
theorem dw_833 : lw_in (Cond.instanceMethod yX11_cases) := ⟨lw_t (tm_7 (List.mem_of_getElem? (i := 197) rfl)), good_of_word (by decide +kernel)⟩
theorem dw_834 : lw_in (Cond.methodLink R_law 76 yX11_cases) := ⟨lw_t (tm_7 (List.mem_of_getElem? (i := 196) rfl)), good_of_word (by decide +kernel)⟩
set_option maxRecDepth 100000 in
theorem dw_835 : lw_in (Cond.code yX10_chance cX10_chance 2 (some .int)) := ⟨lw_t (tm_4 (List.mem_of_getElem? (i := 143) rfl)), good_of_word (by decide +kernel)⟩
theorem dw_836 : lw_in (Cond.selects RX2 yX2_oddsOf yX2_oddsOf) := ⟨List.mem_of_getElem? (i := 63) rfl, good_of_word (by decide +kernel)⟩
theorem dw_837 : lw_in (Cond.instanceMethod yX2_oddsOf) := ⟨lw_t (tm_4 (List.mem_of_getElem? (i := 146) rfl)), good_of_word (by decide +kernel)⟩
set_option maxRecDepth 100000 in
theorem dw_838 : lw_in (Cond.code yX2_oddsOf cX2_oddsOf 5 (some .int)) := ⟨lw_t (tm_4 (List.mem_of_getElem? (i := 147) rfl)), good_of_word (by decide +kernel)⟩
theorem dw_839 : lw_in (Cond.selects RX2 yX2_oddsIfMay yX2_oddsIfMay) := ⟨List.mem_of_getElem? (i := 64) rfl, good_of_word (by decide +kernel)⟩
theorem dw_840 : lw_in (Cond.instanceMethod yX2_oddsIfMay) := ⟨lw_t (tm_4 (List.mem_of_getElem? (i := 151) rfl)), good_of_word (by decide +kernel)⟩
theorem dw_841 : lw_in (Cond.methodLink RX2 53 yX2_oddsIfMay) := ⟨lw_t (tm_4 (List.mem_of_getElem? (i := 149) rfl)), good_of_word (by decide +kernel)⟩
set_option maxRecDepth 100000 in
theorem dw_842 : lw_in (Cond.code yX2_oddsIfMay cX2_oddsIfMay 4 (some .int)) := ⟨lw_t (tm_4 (List.mem_of_getElem? (i := 152) rfl)), good_of_word (by decide +kernel)⟩
theorem dw_843 : lw_in (Cond.selects RX10 yX10_chance yX10_chance) := ⟨lw_t (tm_4 (List.mem_of_getElem? (i := 142) rfl)), good_of_word (by decide +kernel)⟩
theorem dw_844 : lw_in (Cond.instanceMethod yX10_chance) := ⟨lw_t (tm_4 (List.mem_of_getElem? (i := 141) rfl)), good_of_word (by decide +kernel)⟩
theorem dw_845 : lw_in (Cond.methodLink R_law 77 yX10_chance) := ⟨lw_t (tm_4 (List.mem_of_getElem? (i := 140) rfl)), good_of_word (by decide +kernel)⟩
set_option maxRecDepth 100000 in
theorem dw_846 : lw_in (Cond.code yX11_chance cX11_chance 2 (some .int)) := ⟨lw_t (tm_7 (List.mem_of_getElem? (i := 207) rfl)), good_of_word (by decide +kernel)⟩
theorem dw_847 : lw_in (Cond.selects RX11 yX11_chanceOf yX11_chanceOf) := ⟨List.mem_of_getElem? (i := 152) rfl, good_of_word (by decide +kernel)⟩
theorem dw_848 : lw_in (Cond.instanceMethod yX11_chanceOf) := ⟨lw_t (tm_7 (List.mem_of_getElem? (i := 210) rfl)), good_of_word (by decide +kernel)⟩
theorem dw_849 : lw_in (Cond.methodLink RX11 392 yX11_chanceOf) := ⟨lw_t (tm_7 (List.mem_of_getElem? (i := 208) rfl)), good_of_word (by decide +kernel)⟩
set_option maxRecDepth 100000 in
theorem dw_850 : lw_in (Cond.code yX11_chanceOf cX11_chanceOf 5 (some .int)) := ⟨lw_t (tm_7 (List.mem_of_getElem? (i := 211) rfl)), good_of_word (by decide +kernel)⟩
theorem dw_851 : lw_in (Cond.selects RX11 yX11_mayBe yX11_mayBe) := ⟨List.mem_of_getElem? (i := 153) rfl, good_of_word (by decide +kernel)⟩
theorem dw_852 : lw_in (Cond.instanceMethod yX11_mayBe) := ⟨lw_t (tm_7 (List.mem_of_getElem? (i := 214) rfl)), good_of_word (by decide +kernel)⟩
theorem dw_853 : lw_in (Cond.methodLink RX11 388 yX11_mayBe) := ⟨lw_t (tm_7 (List.mem_of_getElem? (i := 212) rfl)), good_of_word (by decide +kernel)⟩
set_option maxRecDepth 100000 in
theorem dw_854 : lw_in (Cond.code yX11_mayBe cX11_mayBe 3 (some .boolean)) := ⟨lw_t (tm_7 (List.mem_of_getElem? (i := 215) rfl)), good_of_word (by decide +kernel)⟩
theorem dw_855 : lw_in (Cond.selects RX11 yX11_chance yX11_chance) := ⟨lw_t (tm_7 (List.mem_of_getElem? (i := 206) rfl)), good_of_word (by decide +kernel)⟩
theorem dw_856 : lw_in (Cond.instanceMethod yX11_chance) := ⟨lw_t (tm_7 (List.mem_of_getElem? (i := 205) rfl)), good_of_word (by decide +kernel)⟩
theorem dw_857 : lw_in (Cond.methodLink R_law 80 yX11_chance) := ⟨lw_t (tm_7 (List.mem_of_getElem? (i := 204) rfl)), good_of_word (by decide +kernel)⟩
set_option maxRecDepth 100000 in
theorem dw_858 : lw_in (Cond.code yX10_all cX10_all 1 (some .int)) := ⟨lw_t (tm_4 (List.mem_of_getElem? (i := 158) rfl)), good_of_word (by decide +kernel)⟩
theorem dw_859 : lw_in (Cond.selects RX2 yX2_oddsOfAll yX2_oddsOfAll) := ⟨List.mem_of_getElem? (i := 65) rfl, good_of_word (by decide +kernel)⟩
theorem dw_860 : lw_in (Cond.instanceMethod yX2_oddsOfAll) := ⟨lw_t (tm_4 (List.mem_of_getElem? (i := 161) rfl)), good_of_word (by decide +kernel)⟩
set_option maxRecDepth 100000 in
theorem dw_861 : lw_in (Cond.code yX2_oddsOfAll cX2_oddsOfAll 7 (some .int)) := ⟨lw_t (tm_4 (List.mem_of_getElem? (i := 162) rfl)), good_of_word (by decide +kernel)⟩
theorem dw_862 : lw_in (Cond.selects RX10 yX10_all yX10_all) := ⟨lw_t (tm_4 (List.mem_of_getElem? (i := 157) rfl)), good_of_word (by decide +kernel)⟩
theorem dw_863 : lw_in (Cond.instanceMethod yX10_all) := ⟨lw_t (tm_4 (List.mem_of_getElem? (i := 156) rfl)), good_of_word (by decide +kernel)⟩
theorem dw_864 : lw_in (Cond.methodLink R_law 81 yX10_all) := ⟨lw_t (tm_4 (List.mem_of_getElem? (i := 155) rfl)), good_of_word (by decide +kernel)⟩
set_option maxRecDepth 100000 in
theorem dw_865 : lw_in (Cond.code yX11_all cX11_all 3 (some .int)) := ⟨lw_t (tm_7 (List.mem_of_getElem? (i := 219) rfl)), good_of_word (by decide +kernel)⟩
theorem dw_866 : lw_in (Cond.selects RX11 yX11_sumAt yX11_sumAt) := ⟨List.mem_of_getElem? (i := 154) rfl, good_of_word (by decide +kernel)⟩
theorem dw_867 : lw_in (Cond.instanceMethod yX11_sumAt) := ⟨lw_t (tm_7 (List.mem_of_getElem? (i := 222) rfl)), good_of_word (by decide +kernel)⟩
theorem dw_868 : lw_in (Cond.methodLink RX11 395 yX11_sumAt) := ⟨lw_t (tm_7 (List.mem_of_getElem? (i := 220) rfl)), good_of_word (by decide +kernel)⟩
set_option maxRecDepth 100000 in
theorem dw_869 : lw_in (Cond.code yX11_sumAt cX11_sumAt 4 (some .int)) := ⟨lw_t (tm_7 (List.mem_of_getElem? (i := 223) rfl)), good_of_word (by decide +kernel)⟩
theorem dw_870 : lw_in (Cond.selects RX11 yX11_all yX11_all) := ⟨lw_t (tm_7 (List.mem_of_getElem? (i := 218) rfl)), good_of_word (by decide +kernel)⟩
theorem dw_871 : lw_in (Cond.instanceMethod yX11_all) := ⟨lw_t (tm_7 (List.mem_of_getElem? (i := 217) rfl)), good_of_word (by decide +kernel)⟩
theorem dw_872 : lw_in (Cond.methodLink R_law 84 yX11_all) := ⟨lw_t (tm_7 (List.mem_of_getElem? (i := 216) rfl)), good_of_word (by decide +kernel)⟩
set_option maxRecDepth 100000 in
theorem dw_873 : lw_in (Cond.code yX10_likeliest cX10_likeliest 1 (some .int)) := ⟨lw_t (tm_4 (List.mem_of_getElem? (i := 166) rfl)), good_of_word (by decide +kernel)⟩
theorem dw_874 : lw_in (Cond.selects RX2 yX2_bestGuess yX2_bestGuess) := ⟨List.mem_of_getElem? (i := 66) rfl, good_of_word (by decide +kernel)⟩
theorem dw_875 : lw_in (Cond.instanceMethod yX2_bestGuess) := ⟨lw_t (tm_4 (List.mem_of_getElem? (i := 169) rfl)), good_of_word (by decide +kernel)⟩
set_option maxRecDepth 100000 in
theorem dw_876 : lw_in (Cond.code yX2_bestGuess cX2_bestGuess 6 (some .int)) := ⟨lw_t (tm_4 (List.mem_of_getElem? (i := 170) rfl)), good_of_word (by decide +kernel)⟩
theorem dw_877 : lw_in (Cond.selects RX2 yX2_bestThing yX2_bestThing) := ⟨List.mem_of_getElem? (i := 67) rfl, good_of_word (by decide +kernel)⟩
theorem dw_878 : lw_in (Cond.instanceMethod yX2_bestThing) := ⟨lw_t (tm_4 (List.mem_of_getElem? (i := 173) rfl)), good_of_word (by decide +kernel)⟩
theorem dw_879 : lw_in (Cond.methodLink RX2 68 yX2_bestThing) := ⟨lw_t (tm_4 (List.mem_of_getElem? (i := 171) rfl)), good_of_word (by decide +kernel)⟩
set_option maxRecDepth 100000 in
theorem dw_880 : lw_in (Cond.code yX2_bestThing cX2_bestThing 8 (some .int)) := ⟨lw_t (tm_4 (List.mem_of_getElem? (i := 174) rfl)), good_of_word (by decide +kernel)⟩
theorem dw_881 : lw_in (Cond.selects RX10 yX10_likeliest yX10_likeliest) := ⟨lw_t (tm_4 (List.mem_of_getElem? (i := 165) rfl)), good_of_word (by decide +kernel)⟩
theorem dw_882 : lw_in (Cond.instanceMethod yX10_likeliest) := ⟨lw_t (tm_4 (List.mem_of_getElem? (i := 164) rfl)), good_of_word (by decide +kernel)⟩
theorem dw_883 : lw_in (Cond.methodLink R_law 85 yX10_likeliest) := ⟨lw_t (tm_4 (List.mem_of_getElem? (i := 163) rfl)), good_of_word (by decide +kernel)⟩
set_option maxRecDepth 100000 in
theorem dw_884 : lw_in (Cond.code yX11_likeliest cX11_likeliest 1 (some .int)) := ⟨lw_t (tm_7 (List.mem_of_getElem? (i := 227) rfl)), good_of_word (by decide +kernel)⟩
theorem dw_885 : lw_in (Cond.selects RX11 yX11_bestFor yX11_bestFor) := ⟨List.mem_of_getElem? (i := 155) rfl, good_of_word (by decide +kernel)⟩
theorem dw_886 : lw_in (Cond.instanceMethod yX11_bestFor) := ⟨lw_t (tm_7 (List.mem_of_getElem? (i := 230) rfl)), good_of_word (by decide +kernel)⟩
theorem dw_887 : lw_in (Cond.methodLink RX11 398 yX11_bestFor) := ⟨lw_t (tm_7 (List.mem_of_getElem? (i := 228) rfl)), good_of_word (by decide +kernel)⟩
set_option maxRecDepth 100000 in
theorem dw_888 : lw_in (Cond.code yX11_bestFor cX11_bestFor 6 (some .int)) := ⟨lw_t (tm_7 (List.mem_of_getElem? (i := 231) rfl)), good_of_word (by decide +kernel)⟩
theorem dw_889 : lw_in (Cond.selects RX11 yX11_likeliest yX11_likeliest) := ⟨lw_t (tm_7 (List.mem_of_getElem? (i := 226) rfl)), good_of_word (by decide +kernel)⟩
theorem dw_890 : lw_in (Cond.instanceMethod yX11_likeliest) := ⟨lw_t (tm_7 (List.mem_of_getElem? (i := 225) rfl)), good_of_word (by decide +kernel)⟩
theorem dw_891 : lw_in (Cond.methodLink R_law 88 yX11_likeliest) := ⟨lw_t (tm_7 (List.mem_of_getElem? (i := 224) rfl)), good_of_word (by decide +kernel)⟩
set_option maxRecDepth 100000 in
theorem dw_892 : lw_in (Cond.code yX10_bears cX10_bears 3 (some .int)) := ⟨lw_t (tm_4 (List.mem_of_getElem? (i := 179) rfl)), good_of_word (by decide +kernel)⟩
theorem dw_893 : lw_in (Cond.selects RX2 yX2_borneOver yX2_borneOver) := ⟨List.mem_of_getElem? (i := 68) rfl, good_of_word (by decide +kernel)⟩
theorem dw_894 : lw_in (Cond.instanceMethod yX2_borneOver) := ⟨lw_t (tm_4 (List.mem_of_getElem? (i := 182) rfl)), good_of_word (by decide +kernel)⟩
set_option maxRecDepth 100000 in
theorem dw_895 : lw_in (Cond.code yX2_borneOver cX2_borneOver 5 (some .int)) := ⟨lw_t (tm_4 (List.mem_of_getElem? (i := 183) rfl)), good_of_word (by decide +kernel)⟩
theorem dw_896 : lw_in (Cond.selects RX10 yX10_bears yX10_bears) := ⟨lw_t (tm_4 (List.mem_of_getElem? (i := 178) rfl)), good_of_word (by decide +kernel)⟩
theorem dw_897 : lw_in (Cond.instanceMethod yX10_bears) := ⟨lw_t (tm_4 (List.mem_of_getElem? (i := 177) rfl)), good_of_word (by decide +kernel)⟩
theorem dw_898 : lw_in (Cond.methodLink R_law 89 yX10_bears) := ⟨lw_t (tm_4 (List.mem_of_getElem? (i := 176) rfl)), good_of_word (by decide +kernel)⟩
set_option maxRecDepth 100000 in
theorem dw_899 : lw_in (Cond.code yX11_bears cX11_bears 3 (some .int)) := ⟨lw_t (tm_7 (List.mem_of_getElem? (i := 235) rfl)), good_of_word (by decide +kernel)⟩
theorem dw_900 : lw_in (Cond.selects RX11 yX11_bears yX11_bears) := ⟨lw_t (tm_7 (List.mem_of_getElem? (i := 234) rfl)), good_of_word (by decide +kernel)⟩
theorem dw_901 : lw_in (Cond.instanceMethod yX11_bears) := ⟨lw_t (tm_7 (List.mem_of_getElem? (i := 233) rfl)), good_of_word (by decide +kernel)⟩
theorem dw_902 : lw_in (Cond.methodLink R_law 92 yX11_bears) := ⟨lw_t (tm_7 (List.mem_of_getElem? (i := 232) rfl)), good_of_word (by decide +kernel)⟩
set_option maxRecDepth 100000 in
theorem dw_903 : lw_in (Cond.code yX10_safest cX10_safest 2 (some .int)) := ⟨lw_t (tm_4 (List.mem_of_getElem? (i := 188) rfl)), good_of_word (by decide +kernel)⟩
theorem dw_904 : lw_in (Cond.selects RX10 yX10_safest yX10_safest) := ⟨lw_t (tm_4 (List.mem_of_getElem? (i := 187) rfl)), good_of_word (by decide +kernel)⟩
theorem dw_905 : lw_in (Cond.instanceMethod yX10_safest) := ⟨lw_t (tm_4 (List.mem_of_getElem? (i := 186) rfl)), good_of_word (by decide +kernel)⟩
theorem dw_906 : lw_in (Cond.methodLink R_law 93 yX10_safest) := ⟨lw_t (tm_4 (List.mem_of_getElem? (i := 185) rfl)), good_of_word (by decide +kernel)⟩
set_option maxRecDepth 100000 in
theorem dw_907 : lw_in (Cond.code yX11_safest cX11_safest 2 (some .int)) := ⟨lw_t (tm_7 (List.mem_of_getElem? (i := 239) rfl)), good_of_word (by decide +kernel)⟩
theorem dw_908 : lw_in (Cond.selects RX11 yX11_safest yX11_safest) := ⟨lw_t (tm_7 (List.mem_of_getElem? (i := 238) rfl)), good_of_word (by decide +kernel)⟩
theorem dw_909 : lw_in (Cond.instanceMethod yX11_safest) := ⟨lw_t (tm_7 (List.mem_of_getElem? (i := 237) rfl)), good_of_word (by decide +kernel)⟩
theorem dw_910 : lw_in (Cond.methodLink R_law 96 yX11_safest) := ⟨lw_t (tm_7 (List.mem_of_getElem? (i := 236) rfl)), good_of_word (by decide +kernel)⟩
set_option maxRecDepth 100000 in
theorem dw_911 : lw_in (Cond.code yX10_enough cX10_enough 1 (some .int)) := ⟨lw_t (tm_4 (List.mem_of_getElem? (i := 192) rfl)), good_of_word (by decide +kernel)⟩
theorem dw_912 : lw_in (Cond.selects RX2 yX2_goesAtMost yX2_goesAtMost) := ⟨List.mem_of_getElem? (i := 69) rfl, good_of_word (by decide +kernel)⟩
theorem dw_913 : lw_in (Cond.instanceMethod yX2_goesAtMost) := ⟨lw_t (tm_4 (List.mem_of_getElem? (i := 195) rfl)), good_of_word (by decide +kernel)⟩
set_option maxRecDepth 100000 in
theorem dw_914 : lw_in (Cond.code yX2_goesAtMost cX2_goesAtMost 4 (some .int)) := ⟨lw_t (tm_4 (List.mem_of_getElem? (i := 196) rfl)), good_of_word (by decide +kernel)⟩
theorem dw_915 : lw_in (Cond.selects RX10 yX10_enough yX10_enough) := ⟨lw_t (tm_4 (List.mem_of_getElem? (i := 191) rfl)), good_of_word (by decide +kernel)⟩
theorem dw_916 : lw_in (Cond.instanceMethod yX10_enough) := ⟨lw_t (tm_4 (List.mem_of_getElem? (i := 190) rfl)), good_of_word (by decide +kernel)⟩
theorem dw_917 : lw_in (Cond.methodLink R_law 97 yX10_enough) := ⟨lw_t (tm_4 (List.mem_of_getElem? (i := 189) rfl)), good_of_word (by decide +kernel)⟩
set_option maxRecDepth 100000 in
theorem dw_918 : lw_in (Cond.code yX11_enough cX11_enough 3 (some .int)) := ⟨lw_t (tm_8 (List.mem_of_getElem? (i := 3) rfl)), good_of_word (by decide +kernel)⟩
theorem dw_919 : lw_in (Cond.selects RX11 yX11_enough yX11_enough) := ⟨lw_t (tm_8 (List.mem_of_getElem? (i := 2) rfl)), good_of_word (by decide +kernel)⟩
theorem dw_920 : lw_in (Cond.instanceMethod yX11_enough) := ⟨lw_t (tm_8 (List.mem_of_getElem? (i := 1) rfl)), good_of_word (by decide +kernel)⟩
theorem dw_921 : lw_in (Cond.methodLink R_law 100 yX11_enough) := ⟨lw_t (tm_8 (List.mem_of_getElem? (i := 0) rfl)), good_of_word (by decide +kernel)⟩
set_option maxRecDepth 100000 in
theorem dw_922 : lw_in (Cond.code yX10_left cX10_left 2 (some .int)) := ⟨lw_t (tm_4 (List.mem_of_getElem? (i := 200) rfl)), good_of_word (by decide +kernel)⟩
theorem dw_923 : lw_in (Cond.selects RX2 yX2_leftBehind yX2_leftBehind) := ⟨List.mem_of_getElem? (i := 70) rfl, good_of_word (by decide +kernel)⟩
theorem dw_924 : lw_in (Cond.instanceMethod yX2_leftBehind) := ⟨lw_t (tm_4 (List.mem_of_getElem? (i := 203) rfl)), good_of_word (by decide +kernel)⟩
set_option maxRecDepth 100000 in
theorem dw_925 : lw_in (Cond.code yX2_leftBehind cX2_leftBehind 7 (some .int)) := ⟨lw_t (tm_4 (List.mem_of_getElem? (i := 204) rfl)), good_of_word (by decide +kernel)⟩
theorem dw_926 : lw_in (Cond.methodLink RX2 79 Lib.Math.max.name) := ⟨lw_t (tm_4 (List.mem_of_getElem? (i := 205) rfl)), good_of_word (by decide +kernel)⟩
theorem dw_927 : lw_in (Cond.selects RX10 yX10_left yX10_left) := ⟨lw_t (tm_4 (List.mem_of_getElem? (i := 199) rfl)), good_of_word (by decide +kernel)⟩
theorem dw_928 : lw_in (Cond.instanceMethod yX10_left) := ⟨lw_t (tm_4 (List.mem_of_getElem? (i := 198) rfl)), good_of_word (by decide +kernel)⟩
theorem dw_929 : lw_in (Cond.methodLink R_law 101 yX10_left) := ⟨lw_t (tm_4 (List.mem_of_getElem? (i := 197) rfl)), good_of_word (by decide +kernel)⟩
set_option maxRecDepth 100000 in
theorem dw_930 : lw_in (Cond.code yX11_left cX11_left 2 (some .int)) := ⟨lw_t (tm_8 (List.mem_of_getElem? (i := 7) rfl)), good_of_word (by decide +kernel)⟩
theorem dw_931 : lw_in (Cond.selects RX11 yX11_leftOf yX11_leftOf) := ⟨List.mem_of_getElem? (i := 156) rfl, good_of_word (by decide +kernel)⟩
theorem dw_932 : lw_in (Cond.instanceMethod yX11_leftOf) := ⟨lw_t (tm_8 (List.mem_of_getElem? (i := 10) rfl)), good_of_word (by decide +kernel)⟩
theorem dw_933 : lw_in (Cond.methodLink RX11 401 yX11_leftOf) := ⟨lw_t (tm_8 (List.mem_of_getElem? (i := 8) rfl)), good_of_word (by decide +kernel)⟩
set_option maxRecDepth 100000 in
theorem dw_934 : lw_in (Cond.code yX11_leftOf cX11_leftOf 7 (some .int)) := ⟨lw_t (tm_8 (List.mem_of_getElem? (i := 11) rfl)), good_of_word (by decide +kernel)⟩
theorem dw_935 : lw_in (Cond.selects RX11 yX11_left yX11_left) := ⟨lw_t (tm_8 (List.mem_of_getElem? (i := 6) rfl)), good_of_word (by decide +kernel)⟩
theorem dw_936 : lw_in (Cond.instanceMethod yX11_left) := ⟨lw_t (tm_8 (List.mem_of_getElem? (i := 5) rfl)), good_of_word (by decide +kernel)⟩
theorem dw_937 : lw_in (Cond.methodLink R_law 104 yX11_left) := ⟨lw_t (tm_8 (List.mem_of_getElem? (i := 4) rfl)), good_of_word (by decide +kernel)⟩
set_option maxRecDepth 100000 in
theorem dw_938 : lw_in (Cond.code yX10_wisest cX10_wisest 3 (some .int)) := ⟨lw_t (tm_4 (List.mem_of_getElem? (i := 209) rfl)), good_of_word (by decide +kernel)⟩
theorem dw_939 : lw_in (Cond.selects RX2 yX2_wisestGuess yX2_wisestGuess) := ⟨List.mem_of_getElem? (i := 71) rfl, good_of_word (by decide +kernel)⟩
theorem dw_940 : lw_in (Cond.instanceMethod yX2_wisestGuess) := ⟨lw_t (tm_4 (List.mem_of_getElem? (i := 212) rfl)), good_of_word (by decide +kernel)⟩
set_option maxRecDepth 100000 in
theorem dw_941 : lw_in (Cond.code yX2_wisestGuess cX2_wisestGuess 5 (some .int)) := ⟨lw_t (tm_4 (List.mem_of_getElem? (i := 213) rfl)), good_of_word (by decide +kernel)⟩
theorem dw_942 : lw_in (Cond.static yJ6_numberOfTrailingZeros_0f7a4) := ⟨lw_t (tm_4 (List.mem_of_getElem? (i := 215) rfl)), good_of_word (by decide +kernel)⟩
theorem dw_943 : lw_in (Cond.methodLink RX2 84 yJ6_numberOfTrailingZeros_0f7a4) := ⟨lw_t (tm_4 (List.mem_of_getElem? (i := 214) rfl)), good_of_word (by decide +kernel)⟩
set_option maxRecDepth 100000 in
theorem dw_944 : lw_in (Cond.code yJ6_numberOfTrailingZeros_0f7a4 cJ6_numberOfTrailingZeros_0f7a4 2 (some .int)) := ⟨lw_t (tm_4 (List.mem_of_getElem? (i := 216) rfl)), good_of_word (by decide +kernel)⟩
theorem dw_945 : lw_in (Cond.constant RJ6 264 (65536)) := ⟨lw_t (tm_4 (List.mem_of_getElem? (i := 217) rfl)), good_of_word (by decide +kernel)⟩
theorem dw_946 : lw_in (Cond.selects RX10 yX10_wisest yX10_wisest) := ⟨lw_t (tm_4 (List.mem_of_getElem? (i := 208) rfl)), good_of_word (by decide +kernel)⟩
theorem dw_947 : lw_in (Cond.instanceMethod yX10_wisest) := ⟨lw_t (tm_4 (List.mem_of_getElem? (i := 207) rfl)), good_of_word (by decide +kernel)⟩
theorem dw_948 : lw_in (Cond.methodLink R_law 105 yX10_wisest) := ⟨lw_t (tm_4 (List.mem_of_getElem? (i := 206) rfl)), good_of_word (by decide +kernel)⟩
set_option maxRecDepth 100000 in
theorem dw_949 : lw_in (Cond.code yX11_wisest cX11_wisest 6 (some .int)) := ⟨lw_t (tm_8 (List.mem_of_getElem? (i := 15) rfl)), good_of_word (by decide +kernel)⟩
theorem dw_950 : lw_in (Cond.selects RX11 yX11_wisest yX11_wisest) := ⟨lw_t (tm_8 (List.mem_of_getElem? (i := 14) rfl)), good_of_word (by decide +kernel)⟩
theorem dw_951 : lw_in (Cond.instanceMethod yX11_wisest) := ⟨lw_t (tm_8 (List.mem_of_getElem? (i := 13) rfl)), good_of_word (by decide +kernel)⟩
theorem dw_952 : lw_in (Cond.methodLink R_law 108 yX11_wisest) := ⟨lw_t (tm_8 (List.mem_of_getElem? (i := 12) rfl)), good_of_word (by decide +kernel)⟩
set_option maxRecDepth 100000 in
theorem dw_953 : lw_in (Cond.code yX10_rank cX10_rank 3 (some .int)) := ⟨lw_t (tm_4 (List.mem_of_getElem? (i := 221) rfl)), good_of_word (by decide +kernel)⟩
theorem dw_954 : lw_in (Cond.selects RX2 yX2_casesAheadOf yX2_casesAheadOf) := ⟨List.mem_of_getElem? (i := 72) rfl, good_of_word (by decide +kernel)⟩
theorem dw_955 : lw_in (Cond.instanceMethod yX2_casesAheadOf) := ⟨lw_t (tm_4 (List.mem_of_getElem? (i := 224) rfl)), good_of_word (by decide +kernel)⟩
set_option maxRecDepth 100000 in
theorem dw_956 : lw_in (Cond.code yX2_casesAheadOf cX2_casesAheadOf 11 (some .int)) := ⟨lw_t (tm_4 (List.mem_of_getElem? (i := 225) rfl)), good_of_word (by decide +kernel)⟩
theorem dw_957 : lw_in (Cond.selects RX2 yX2_fillFar yX2_fillFar) := ⟨List.mem_of_getElem? (i := 75) rfl, good_of_word (by decide +kernel)⟩
theorem dw_958 : lw_in (Cond.instanceMethod yX2_fillFar) := ⟨lw_t (tm_4 (List.mem_of_getElem? (i := 237) rfl)), good_of_word (by decide +kernel)⟩
theorem dw_959 : lw_in (Cond.methodLink RX2 98 yX2_fillFar) := ⟨lw_t (tm_4 (List.mem_of_getElem? (i := 235) rfl)), good_of_word (by decide +kernel)⟩
theorem dw_960 : lw_in (Cond.selects RX2 yX2_fillNear yX2_fillNear) := ⟨List.mem_of_getElem? (i := 73) rfl, good_of_word (by decide +kernel)⟩
theorem dw_961 : lw_in (Cond.instanceMethod yX2_fillNear) := ⟨lw_t (tm_4 (List.mem_of_getElem? (i := 228) rfl)), good_of_word (by decide +kernel)⟩
theorem dw_962 : lw_in (Cond.methodLink RX2 94 yX2_fillNear) := ⟨lw_t (tm_4 (List.mem_of_getElem? (i := 226) rfl)), good_of_word (by decide +kernel)⟩
theorem dw_963 : lw_in (Cond.fieldLink RX2 9 "GuessFerry$Outlook" "near" "[I") := ⟨lw_t (tm_2 (List.mem_of_getElem? (i := 143) rfl)), good_of_word (by decide +kernel)⟩
theorem dw_964 : lw_in (Cond.fieldLink RX2 15 "GuessFerry$Outlook" "far" "[I") := ⟨lw_t (tm_2 (List.mem_of_getElem? (i := 144) rfl)), good_of_word (by decide +kernel)⟩
set_option maxRecDepth 100000 in
theorem dw_965 : lw_in (Cond.code yX2_fillNear cX2_fillNear 2 (some .int)) := ⟨lw_t (tm_4 (List.mem_of_getElem? (i := 229) rfl)), good_of_word (by decide +kernel)⟩
theorem dw_966 : lw_in (Cond.selects RX2 yX2_fillRow yX2_fillRow) := ⟨List.mem_of_getElem? (i := 74) rfl, good_of_word (by decide +kernel)⟩
theorem dw_967 : lw_in (Cond.instanceMethod yX2_fillRow) := ⟨lw_t (tm_4 (List.mem_of_getElem? (i := 233) rfl)), good_of_word (by decide +kernel)⟩
theorem dw_968 : lw_in (Cond.methodLink RX2 90 yX2_fillRow) := ⟨lw_t (tm_4 (List.mem_of_getElem? (i := 231) rfl)), good_of_word (by decide +kernel)⟩
theorem dw_969 : lw_in (Cond.methodLink RX2 87 Lib.Math.min.name) := ⟨lw_t (tm_4 (List.mem_of_getElem? (i := 230) rfl)), good_of_word (by decide +kernel)⟩
set_option maxRecDepth 100000 in
theorem dw_970 : lw_in (Cond.code yX2_fillRow cX2_fillRow 10 (some .int)) := ⟨lw_t (tm_4 (List.mem_of_getElem? (i := 234) rfl)), good_of_word (by decide +kernel)⟩
set_option maxRecDepth 100000 in
theorem dw_971 : lw_in (Cond.code yX2_fillFar cX2_fillFar 2 (some .int)) := ⟨lw_t (tm_4 (List.mem_of_getElem? (i := 238) rfl)), good_of_word (by decide +kernel)⟩
theorem dw_972 : lw_in (Cond.selects RX10 yX10_rank yX10_rank) := ⟨lw_t (tm_4 (List.mem_of_getElem? (i := 220) rfl)), good_of_word (by decide +kernel)⟩
theorem dw_973 : lw_in (Cond.instanceMethod yX10_rank) := ⟨lw_t (tm_4 (List.mem_of_getElem? (i := 219) rfl)), good_of_word (by decide +kernel)⟩
theorem dw_974 : lw_in (Cond.methodLink R_law 109 yX10_rank) := ⟨lw_t (tm_4 (List.mem_of_getElem? (i := 218) rfl)), good_of_word (by decide +kernel)⟩
set_option maxRecDepth 100000 in
theorem dw_975 : lw_in (Cond.code yX11_rank cX11_rank 4 (some .int)) := ⟨lw_t (tm_8 (List.mem_of_getElem? (i := 19) rfl)), good_of_word (by decide +kernel)⟩
theorem dw_976 : lw_in (Cond.selects RX11 yX11_isAhead yX11_isAhead) := ⟨List.mem_of_getElem? (i := 159) rfl, good_of_word (by decide +kernel)⟩
theorem dw_977 : lw_in (Cond.instanceMethod yX11_isAhead) := ⟨lw_t (tm_8 (List.mem_of_getElem? (i := 30) rfl)), good_of_word (by decide +kernel)⟩
theorem dw_978 : lw_in (Cond.methodLink RX11 410 yX11_isAhead) := ⟨lw_t (tm_8 (List.mem_of_getElem? (i := 28) rfl)), good_of_word (by decide +kernel)⟩
theorem dw_979 : lw_in (Cond.selects RX11 yX11_isCase yX11_isCase) := ⟨List.mem_of_getElem? (i := 158) rfl, good_of_word (by decide +kernel)⟩
theorem dw_980 : lw_in (Cond.instanceMethod yX11_isCase) := ⟨lw_t (tm_8 (List.mem_of_getElem? (i := 26) rfl)), good_of_word (by decide +kernel)⟩
theorem dw_981 : lw_in (Cond.methodLink RX11 407 yX11_isCase) := ⟨lw_t (tm_8 (List.mem_of_getElem? (i := 24) rfl)), good_of_word (by decide +kernel)⟩
theorem dw_982 : lw_in (Cond.selects RX11 yX11_fillsChances yX11_fillsChances) := ⟨List.mem_of_getElem? (i := 157) rfl, good_of_word (by decide +kernel)⟩
theorem dw_983 : lw_in (Cond.instanceMethod yX11_fillsChances) := ⟨lw_t (tm_8 (List.mem_of_getElem? (i := 22) rfl)), good_of_word (by decide +kernel)⟩
theorem dw_984 : lw_in (Cond.methodLink RX11 404 yX11_fillsChances) := ⟨lw_t (tm_8 (List.mem_of_getElem? (i := 20) rfl)), good_of_word (by decide +kernel)⟩
set_option maxRecDepth 100000 in
theorem dw_985 : lw_in (Cond.code yX11_fillsChances cX11_fillsChances 2 none) := ⟨lw_t (tm_8 (List.mem_of_getElem? (i := 23) rfl)), good_of_word (by decide +kernel)⟩
theorem dw_986 : lw_in (Cond.fieldLink RX11 113 "GuessFerryModel" "chanceBy" "[I") := ⟨lw_t (tm_6 (List.mem_of_getElem? (i := 45) rfl)), good_of_word (by decide +kernel)⟩
set_option maxRecDepth 100000 in
theorem dw_987 : lw_in (Cond.code yX11_isCase cX11_isCase 3 (some .boolean)) := ⟨lw_t (tm_8 (List.mem_of_getElem? (i := 27) rfl)), good_of_word (by decide +kernel)⟩
set_option maxRecDepth 100000 in
theorem dw_988 : lw_in (Cond.code yX11_isAhead cX11_isAhead 3 (some .boolean)) := ⟨lw_t (tm_8 (List.mem_of_getElem? (i := 31) rfl)), good_of_word (by decide +kernel)⟩
theorem dw_989 : lw_in (Cond.selects RX11 yX11_rank yX11_rank) := ⟨lw_t (tm_8 (List.mem_of_getElem? (i := 18) rfl)), good_of_word (by decide +kernel)⟩
theorem dw_990 : lw_in (Cond.instanceMethod yX11_rank) := ⟨lw_t (tm_8 (List.mem_of_getElem? (i := 17) rfl)), good_of_word (by decide +kernel)⟩
theorem dw_991 : lw_in (Cond.methodLink R_law 112 yX11_rank) := ⟨lw_t (tm_8 (List.mem_of_getElem? (i := 16) rfl)), good_of_word (by decide +kernel)⟩
set_option maxRecDepth 100000 in
theorem dw_992 : lw_in (Cond.code yX10_ranked cX10_ranked 2 (some .int)) := ⟨lw_t (tm_5 (List.mem_of_getElem? (i := 2) rfl)), good_of_word (by decide +kernel)⟩
theorem dw_993 : lw_in (Cond.selects RX2 yX2_caseAtRank yX2_caseAtRank) := ⟨List.mem_of_getElem? (i := 76) rfl, good_of_word (by decide +kernel)⟩
theorem dw_994 : lw_in (Cond.instanceMethod yX2_caseAtRank) := ⟨lw_t (tm_5 (List.mem_of_getElem? (i := 5) rfl)), good_of_word (by decide +kernel)⟩
set_option maxRecDepth 100000 in
theorem dw_995 : lw_in (Cond.code yX2_caseAtRank cX2_caseAtRank 9 (some .int)) := ⟨lw_t (tm_5 (List.mem_of_getElem? (i := 6) rfl)), good_of_word (by decide +kernel)⟩
theorem dw_996 : lw_in (Cond.selects RX2 yX2_putOnTop yX2_putOnTop) := ⟨List.mem_of_getElem? (i := 77) rfl, good_of_word (by decide +kernel)⟩
theorem dw_997 : lw_in (Cond.instanceMethod yX2_putOnTop) := ⟨lw_t (tm_5 (List.mem_of_getElem? (i := 10) rfl)), good_of_word (by decide +kernel)⟩
theorem dw_998 : lw_in (Cond.methodLink RX2 107 yX2_putOnTop) := ⟨lw_t (tm_5 (List.mem_of_getElem? (i := 8) rfl)), good_of_word (by decide +kernel)⟩
theorem dw_999 : lw_in (Cond.methodLink RX2 101 yJ7_fill_53178) := ⟨lw_t (tm_5 (List.mem_of_getElem? (i := 7) rfl)), good_of_word (by decide +kernel)⟩
