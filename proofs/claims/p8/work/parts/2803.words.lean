theorem dw_750 : lw_in (Cond.methodLink R_law 53 yX11_go) := ⟨List.mem_of_getElem? (i := 1736) (by decide +kernel), good_of_word (by decide +kernel)⟩
set_option maxRecDepth 100000 in
theorem dw_751 : lw_in (Cond.code yX10_buoy cX10_buoy 4 (some .boolean)) := ⟨List.mem_of_getElem? (i := 983) rfl, good_of_word (by decide +kernel)⟩
theorem dw_752 : lw_in (Cond.static yX10_has) := ⟨List.mem_of_getElem? (i := 985) (by decide +kernel), good_of_word (by decide +kernel)⟩
theorem dw_753 : lw_in (Cond.methodLink RX10 181 yX10_has) := ⟨List.mem_of_getElem? (i := 984) (by decide +kernel), good_of_word (by decide +kernel)⟩
set_option maxRecDepth 100000 in
theorem dw_754 : lw_in (Cond.code yX10_has cX10_has 2 (some .boolean)) := ⟨List.mem_of_getElem? (i := 986) rfl, good_of_word (by decide +kernel)⟩
theorem dw_755 : lw_in (Cond.selects RX10 yX10_buoy yX10_buoy) := ⟨List.mem_of_getElem? (i := 982) (by decide +kernel), good_of_word (by decide +kernel)⟩
theorem dw_756 : lw_in (Cond.instanceMethod yX10_buoy) := ⟨List.mem_of_getElem? (i := 981) (by decide +kernel), good_of_word (by decide +kernel)⟩
theorem dw_757 : lw_in (Cond.methodLink R_law 54 yX10_buoy) := ⟨List.mem_of_getElem? (i := 980) (by decide +kernel), good_of_word (by decide +kernel)⟩
set_option maxRecDepth 100000 in
theorem dw_758 : lw_in (Cond.code yX11_buoy cX11_buoy 4 (some .boolean)) := ⟨List.mem_of_getElem? (i := 1779) rfl, good_of_word (by decide +kernel)⟩
theorem dw_759 : lw_in (Cond.selects RX11 yX11_buoy yX11_buoy) := ⟨List.mem_of_getElem? (i := 1778) (by decide +kernel), good_of_word (by decide +kernel)⟩
theorem dw_760 : lw_in (Cond.instanceMethod yX11_buoy) := ⟨List.mem_of_getElem? (i := 1777) (by decide +kernel), good_of_word (by decide +kernel)⟩
theorem dw_761 : lw_in (Cond.methodLink R_law 58 yX11_buoy) := ⟨List.mem_of_getElem? (i := 1776) (by decide +kernel), good_of_word (by decide +kernel)⟩
set_option maxRecDepth 100000 in
theorem dw_762 : lw_in (Cond.code yX10_fetch cX10_fetch 2 (some .boolean)) := ⟨List.mem_of_getElem? (i := 990) rfl, good_of_word (by decide +kernel)⟩
theorem dw_763 : lw_in (Cond.selects RX10 yX10_fetch yX10_fetch) := ⟨List.mem_of_getElem? (i := 989) (by decide +kernel), good_of_word (by decide +kernel)⟩
theorem dw_764 : lw_in (Cond.instanceMethod yX10_fetch) := ⟨List.mem_of_getElem? (i := 988) (by decide +kernel), good_of_word (by decide +kernel)⟩
theorem dw_765 : lw_in (Cond.methodLink R_law 59 yX10_fetch) := ⟨List.mem_of_getElem? (i := 987) (by decide +kernel), good_of_word (by decide +kernel)⟩
set_option maxRecDepth 100000 in
theorem dw_766 : lw_in (Cond.code yX11_fetch cX11_fetch 2 (some .boolean)) := ⟨List.mem_of_getElem? (i := 1783) rfl, good_of_word (by decide +kernel)⟩
theorem dw_767 : lw_in (Cond.selects RX11 yX11_fetch yX11_fetch) := ⟨List.mem_of_getElem? (i := 1782) (by decide +kernel), good_of_word (by decide +kernel)⟩
theorem dw_768 : lw_in (Cond.instanceMethod yX11_fetch) := ⟨List.mem_of_getElem? (i := 1781) (by decide +kernel), good_of_word (by decide +kernel)⟩
theorem dw_769 : lw_in (Cond.methodLink R_law 63 yX11_fetch) := ⟨List.mem_of_getElem? (i := 1780) (by decide +kernel), good_of_word (by decide +kernel)⟩
set_option maxRecDepth 100000 in
theorem dw_770 : lw_in (Cond.code yX10_years cX10_years 2 (some .int)) := ⟨List.mem_of_getElem? (i := 994) rfl, good_of_word (by decide +kernel)⟩
theorem dw_771 : lw_in (Cond.selects RX0 yX0_passYears yX0_passYears) := ⟨List.mem_of_getElem? (i := 58) (by decide +kernel), good_of_word (by decide +kernel)⟩
theorem dw_772 : lw_in (Cond.instanceMethod yX0_passYears) := ⟨List.mem_of_getElem? (i := 997) (by decide +kernel), good_of_word (by decide +kernel)⟩
set_option maxRecDepth 100000 in
theorem dw_773 : lw_in (Cond.code yX0_passYears cX0_passYears 5 none) := ⟨List.mem_of_getElem? (i := 998) rfl, good_of_word (by decide +kernel)⟩
theorem dw_774 : lw_in (Cond.selects RX0 yX0_passYearOver yX0_passYearOver) := ⟨List.mem_of_getElem? (i := 59) (by decide +kernel), good_of_word (by decide +kernel)⟩
theorem dw_775 : lw_in (Cond.instanceMethod yX0_passYearOver) := ⟨List.mem_of_getElem? (i := 1001) (by decide +kernel), good_of_word (by decide +kernel)⟩
theorem dw_776 : lw_in (Cond.methodLink RX0 125 yX0_passYearOver) := ⟨List.mem_of_getElem? (i := 999) (by decide +kernel), good_of_word (by decide +kernel)⟩
set_option maxRecDepth 100000 in
theorem dw_777 : lw_in (Cond.code yX0_passYearOver cX0_passYearOver 4 none) := ⟨List.mem_of_getElem? (i := 1002) rfl, good_of_word (by decide +kernel)⟩
theorem dw_778 : lw_in (Cond.methodLink RX0 132 yX0_shiftsOf) := ⟨List.mem_of_getElem? (i := 1005) (by decide +kernel), good_of_word (by decide +kernel)⟩
theorem dw_779 : lw_in (Cond.constant RX0 128 (1000000)) := ⟨List.mem_of_getElem? (i := 1003) (by decide +kernel), good_of_word (by decide +kernel)⟩
theorem dw_780 : lw_in (Cond.selects RX10 yX10_years yX10_years) := ⟨List.mem_of_getElem? (i := 993) (by decide +kernel), good_of_word (by decide +kernel)⟩
theorem dw_781 : lw_in (Cond.instanceMethod yX10_years) := ⟨List.mem_of_getElem? (i := 992) (by decide +kernel), good_of_word (by decide +kernel)⟩
theorem dw_782 : lw_in (Cond.methodLink R_law 64 yX10_years) := ⟨List.mem_of_getElem? (i := 991) (by decide +kernel), good_of_word (by decide +kernel)⟩
set_option maxRecDepth 100000 in
theorem dw_783 : lw_in (Cond.code yX11_years cX11_years 2 (some .int)) := ⟨List.mem_of_getElem? (i := 1787) rfl, good_of_word (by decide +kernel)⟩
theorem dw_784 : lw_in (Cond.selects RX11 yX11_yearsGo yX11_yearsGo) := ⟨List.mem_of_getElem? (i := 149) (by decide +kernel), good_of_word (by decide +kernel)⟩
theorem dw_785 : lw_in (Cond.instanceMethod yX11_yearsGo) := ⟨List.mem_of_getElem? (i := 1793) (by decide +kernel), good_of_word (by decide +kernel)⟩
theorem dw_786 : lw_in (Cond.methodLink RX11 382 yX11_yearsGo) := ⟨List.mem_of_getElem? (i := 1791) (by decide +kernel), good_of_word (by decide +kernel)⟩
theorem dw_787 : lw_in (Cond.static yX11_isLong) := ⟨List.mem_of_getElem? (i := 1789) (by decide +kernel), good_of_word (by decide +kernel)⟩
theorem dw_788 : lw_in (Cond.methodLink RX11 379 yX11_isLong) := ⟨List.mem_of_getElem? (i := 1788) (by decide +kernel), good_of_word (by decide +kernel)⟩
set_option maxRecDepth 100000 in
theorem dw_789 : lw_in (Cond.code yX11_isLong cX11_isLong 1 (some .boolean)) := ⟨List.mem_of_getElem? (i := 1790) rfl, good_of_word (by decide +kernel)⟩
set_option maxRecDepth 100000 in
theorem dw_790 : lw_in (Cond.code yX11_yearsGo cX11_yearsGo 3 none) := ⟨List.mem_of_getElem? (i := 1794) rfl, good_of_word (by decide +kernel)⟩
theorem dw_791 : lw_in (Cond.selects RX11 yX11_yearGoes yX11_yearGoes) := ⟨List.mem_of_getElem? (i := 150) (by decide +kernel), good_of_word (by decide +kernel)⟩
theorem dw_792 : lw_in (Cond.instanceMethod yX11_yearGoes) := ⟨List.mem_of_getElem? (i := 1797) (by decide +kernel), good_of_word (by decide +kernel)⟩
theorem dw_793 : lw_in (Cond.methodLink RX11 346 yX11_yearGoes) := ⟨List.mem_of_getElem? (i := 1795) (by decide +kernel), good_of_word (by decide +kernel)⟩
set_option maxRecDepth 100000 in
theorem dw_794 : lw_in (Cond.code yX11_yearGoes cX11_yearGoes 2 none) := ⟨List.mem_of_getElem? (i := 1798) rfl, good_of_word (by decide +kernel)⟩
theorem dw_795 : lw_in (Cond.constant RX11 342 (1000000)) := ⟨List.mem_of_getElem? (i := 1799) (by decide +kernel), good_of_word (by decide +kernel)⟩
theorem dw_796 : lw_in (Cond.fieldLink RX11 107 "GuessFerryModel" "shiftsNow" "[Z") := ⟨List.mem_of_getElem? (i := 1410) (by decide +kernel), good_of_word (by decide +kernel)⟩
theorem dw_797 : lw_in (Cond.selects RX11 yX11_years yX11_years) := ⟨List.mem_of_getElem? (i := 1786) (by decide +kernel), good_of_word (by decide +kernel)⟩
theorem dw_798 : lw_in (Cond.instanceMethod yX11_years) := ⟨List.mem_of_getElem? (i := 1785) (by decide +kernel), good_of_word (by decide +kernel)⟩
theorem dw_799 : lw_in (Cond.methodLink R_law 67 yX11_years) := ⟨List.mem_of_getElem? (i := 1784) (by decide +kernel), good_of_word (by decide +kernel)⟩
set_option maxRecDepth 100000 in
theorem dw_800 : lw_in (Cond.code yX10_undo cX10_undo 1 (some .boolean)) := ⟨List.mem_of_getElem? (i := 1009) rfl, good_of_word (by decide +kernel)⟩
theorem dw_801 : lw_in (Cond.selects RX3 yX3_takeBack yX3_takeBack) := ⟨List.mem_of_getElem? (i := 60) (by decide +kernel), good_of_word (by decide +kernel)⟩
theorem dw_802 : lw_in (Cond.instanceMethod yX3_takeBack) := ⟨List.mem_of_getElem? (i := 1012) (by decide +kernel), good_of_word (by decide +kernel)⟩
set_option maxRecDepth 100000 in
theorem dw_803 : lw_in (Cond.code yX3_takeBack cX3_takeBack 2 (some .boolean)) := ⟨List.mem_of_getElem? (i := 1013) rfl, good_of_word (by decide +kernel)⟩
theorem dw_804 : lw_in (Cond.selects RX10 yX10_undo yX10_undo) := ⟨List.mem_of_getElem? (i := 1008) (by decide +kernel), good_of_word (by decide +kernel)⟩
theorem dw_805 : lw_in (Cond.instanceMethod yX10_undo) := ⟨List.mem_of_getElem? (i := 1007) (by decide +kernel), good_of_word (by decide +kernel)⟩
theorem dw_806 : lw_in (Cond.methodLink R_law 68 yX10_undo) := ⟨List.mem_of_getElem? (i := 1006) (by decide +kernel), good_of_word (by decide +kernel)⟩
set_option maxRecDepth 100000 in
theorem dw_807 : lw_in (Cond.code yX11_undo cX11_undo 2 (some .boolean)) := ⟨List.mem_of_getElem? (i := 1803) rfl, good_of_word (by decide +kernel)⟩
theorem dw_808 : lw_in (Cond.selects RX11 yX11_undo yX11_undo) := ⟨List.mem_of_getElem? (i := 1802) (by decide +kernel), good_of_word (by decide +kernel)⟩
theorem dw_809 : lw_in (Cond.instanceMethod yX11_undo) := ⟨List.mem_of_getElem? (i := 1801) (by decide +kernel), good_of_word (by decide +kernel)⟩
theorem dw_810 : lw_in (Cond.methodLink R_law 72 yX11_undo) := ⟨List.mem_of_getElem? (i := 1800) (by decide +kernel), good_of_word (by decide +kernel)⟩
set_option maxRecDepth 100000 in
theorem dw_811 : lw_in (Cond.code yX10_cases cX10_cases 1 (some .int)) := ⟨List.mem_of_getElem? (i := 1017) rfl, good_of_word (by decide +kernel)⟩
theorem dw_812 : lw_in (Cond.selects RX2 yX2_caseCount yX2_caseCount) := ⟨List.mem_of_getElem? (i := 61) (by decide +kernel), good_of_word (by decide +kernel)⟩
theorem dw_813 : lw_in (Cond.initialized RX2) := ⟨List.mem_of_getElem? (i := 182) (by decide +kernel), good_of_word (by decide +kernel)⟩
theorem dw_814 : lw_in (Cond.instanceMethod yX2_caseCount) := ⟨List.mem_of_getElem? (i := 1020) (by decide +kernel), good_of_word (by decide +kernel)⟩
theorem dw_815 : lw_in (Cond.fieldLink RX10 63 "GuessFerry" "outlook" "LGuessFerry$Outlook;") := ⟨List.mem_of_getElem? (i := 614) (by decide +kernel), good_of_word (by decide +kernel)⟩
set_option maxRecDepth 100000 in
theorem dw_816 : lw_in (Cond.code yX2_caseCount cX2_caseCount 4 (some .int)) := ⟨List.mem_of_getElem? (i := 1021) rfl, good_of_word (by decide +kernel)⟩
theorem dw_817 : lw_in (Cond.selects RX2 yX2_mayCount yX2_mayCount) := ⟨List.mem_of_getElem? (i := 62) (by decide +kernel), good_of_word (by decide +kernel)⟩
theorem dw_818 : lw_in (Cond.instanceMethod yX2_mayCount) := ⟨List.mem_of_getElem? (i := 1024) (by decide +kernel), good_of_word (by decide +kernel)⟩
theorem dw_819 : lw_in (Cond.methodLink RX2 50 yX2_mayCount) := ⟨List.mem_of_getElem? (i := 1022) (by decide +kernel), good_of_word (by decide +kernel)⟩
theorem dw_820 : lw_in (Cond.fieldLink RX2 24 "GuessFerry$Outlook" "sound" "LGuessFerry$Sound;") := ⟨List.mem_of_getElem? (i := 549) (by decide +kernel), good_of_word (by decide +kernel)⟩
set_option maxRecDepth 100000 in
theorem dw_821 : lw_in (Cond.code yX2_mayCount cX2_mayCount 3 (some .int)) := ⟨List.mem_of_getElem? (i := 1025) rfl, good_of_word (by decide +kernel)⟩
theorem dw_822 : lw_in (Cond.methodLink RX2 38 yJ6_bitCount_0f7a4) := ⟨List.mem_of_getElem? (i := 1027) (by decide +kernel), good_of_word (by decide +kernel)⟩
theorem dw_823 : lw_in (Cond.fieldLink RX2 28 "GuessFerry$Outlook" "crossing" "LGuessFerry$Crossing;") := ⟨List.mem_of_getElem? (i := 550) (by decide +kernel), good_of_word (by decide +kernel)⟩
theorem dw_824 : lw_in (Cond.selects RX10 yX10_cases yX10_cases) := ⟨List.mem_of_getElem? (i := 1016) (by decide +kernel), good_of_word (by decide +kernel)⟩
theorem dw_825 : lw_in (Cond.instanceMethod yX10_cases) := ⟨List.mem_of_getElem? (i := 1015) (by decide +kernel), good_of_word (by decide +kernel)⟩
theorem dw_826 : lw_in (Cond.methodLink R_law 73 yX10_cases) := ⟨List.mem_of_getElem? (i := 1014) (by decide +kernel), good_of_word (by decide +kernel)⟩
set_option maxRecDepth 100000 in
theorem dw_827 : lw_in (Cond.code yX11_cases cX11_cases 1 (some .int)) := ⟨List.mem_of_getElem? (i := 1807) rfl, good_of_word (by decide +kernel)⟩
theorem dw_828 : lw_in (Cond.selects RX11 yX11_casesNow yX11_casesNow) := ⟨List.mem_of_getElem? (i := 151) (by decide +kernel), good_of_word (by decide +kernel)⟩
theorem dw_829 : lw_in (Cond.instanceMethod yX11_casesNow) := ⟨List.mem_of_getElem? (i := 1810) (by decide +kernel), good_of_word (by decide +kernel)⟩
theorem dw_830 : lw_in (Cond.methodLink RX11 385 yX11_casesNow) := ⟨List.mem_of_getElem? (i := 1808) (by decide +kernel), good_of_word (by decide +kernel)⟩
set_option maxRecDepth 100000 in
theorem dw_831 : lw_in (Cond.code yX11_casesNow cX11_casesNow 3 (some .int)) := ⟨List.mem_of_getElem? (i := 1811) rfl, good_of_word (by decide +kernel)⟩
theorem dw_832 : lw_in (Cond.selects RX11 yX11_cases yX11_cases) := ⟨List.mem_of_getElem? (i := 1806) (by decide +kernel), good_of_word (by decide +kernel)⟩
theorem dw_833 : lw_in (Cond.instanceMethod yX11_cases) := ⟨List.mem_of_getElem? (i := 1805) (by decide +kernel), good_of_word (by decide +kernel)⟩
theorem dw_834 : lw_in (Cond.methodLink R_law 76 yX11_cases) := ⟨List.mem_of_getElem? (i := 1804) (by decide +kernel), good_of_word (by decide +kernel)⟩
set_option maxRecDepth 100000 in
theorem dw_835 : lw_in (Cond.code yX10_chance cX10_chance 2 (some .int)) := ⟨List.mem_of_getElem? (i := 1031) rfl, good_of_word (by decide +kernel)⟩
theorem dw_836 : lw_in (Cond.selects RX2 yX2_oddsOf yX2_oddsOf) := ⟨List.mem_of_getElem? (i := 63) (by decide +kernel), good_of_word (by decide +kernel)⟩
theorem dw_837 : lw_in (Cond.instanceMethod yX2_oddsOf) := ⟨List.mem_of_getElem? (i := 1034) (by decide +kernel), good_of_word (by decide +kernel)⟩
set_option maxRecDepth 100000 in
theorem dw_838 : lw_in (Cond.code yX2_oddsOf cX2_oddsOf 5 (some .int)) := ⟨List.mem_of_getElem? (i := 1035) rfl, good_of_word (by decide +kernel)⟩
theorem dw_839 : lw_in (Cond.selects RX2 yX2_oddsIfMay yX2_oddsIfMay) := ⟨List.mem_of_getElem? (i := 64) (by decide +kernel), good_of_word (by decide +kernel)⟩
theorem dw_840 : lw_in (Cond.instanceMethod yX2_oddsIfMay) := ⟨List.mem_of_getElem? (i := 1039) (by decide +kernel), good_of_word (by decide +kernel)⟩
theorem dw_841 : lw_in (Cond.methodLink RX2 53 yX2_oddsIfMay) := ⟨List.mem_of_getElem? (i := 1037) (by decide +kernel), good_of_word (by decide +kernel)⟩
set_option maxRecDepth 100000 in
theorem dw_842 : lw_in (Cond.code yX2_oddsIfMay cX2_oddsIfMay 4 (some .int)) := ⟨List.mem_of_getElem? (i := 1040) rfl, good_of_word (by decide +kernel)⟩
theorem dw_843 : lw_in (Cond.selects RX10 yX10_chance yX10_chance) := ⟨List.mem_of_getElem? (i := 1030) (by decide +kernel), good_of_word (by decide +kernel)⟩
theorem dw_844 : lw_in (Cond.instanceMethod yX10_chance) := ⟨List.mem_of_getElem? (i := 1029) (by decide +kernel), good_of_word (by decide +kernel)⟩
theorem dw_845 : lw_in (Cond.methodLink R_law 77 yX10_chance) := ⟨List.mem_of_getElem? (i := 1028) (by decide +kernel), good_of_word (by decide +kernel)⟩
set_option maxRecDepth 100000 in
theorem dw_846 : lw_in (Cond.code yX11_chance cX11_chance 2 (some .int)) := ⟨List.mem_of_getElem? (i := 1815) rfl, good_of_word (by decide +kernel)⟩
theorem dw_847 : lw_in (Cond.selects RX11 yX11_chanceOf yX11_chanceOf) := ⟨List.mem_of_getElem? (i := 152) (by decide +kernel), good_of_word (by decide +kernel)⟩
theorem dw_848 : lw_in (Cond.instanceMethod yX11_chanceOf) := ⟨List.mem_of_getElem? (i := 1818) (by decide +kernel), good_of_word (by decide +kernel)⟩
theorem dw_849 : lw_in (Cond.methodLink RX11 392 yX11_chanceOf) := ⟨List.mem_of_getElem? (i := 1816) (by decide +kernel), good_of_word (by decide +kernel)⟩
set_option maxRecDepth 100000 in
theorem dw_850 : lw_in (Cond.code yX11_chanceOf cX11_chanceOf 5 (some .int)) := ⟨List.mem_of_getElem? (i := 1819) rfl, good_of_word (by decide +kernel)⟩
theorem dw_851 : lw_in (Cond.selects RX11 yX11_mayBe yX11_mayBe) := ⟨List.mem_of_getElem? (i := 153) (by decide +kernel), good_of_word (by decide +kernel)⟩
theorem dw_852 : lw_in (Cond.instanceMethod yX11_mayBe) := ⟨List.mem_of_getElem? (i := 1822) (by decide +kernel), good_of_word (by decide +kernel)⟩
theorem dw_853 : lw_in (Cond.methodLink RX11 388 yX11_mayBe) := ⟨List.mem_of_getElem? (i := 1820) (by decide +kernel), good_of_word (by decide +kernel)⟩
set_option maxRecDepth 100000 in
theorem dw_854 : lw_in (Cond.code yX11_mayBe cX11_mayBe 3 (some .boolean)) := ⟨List.mem_of_getElem? (i := 1823) rfl, good_of_word (by decide +kernel)⟩
theorem dw_855 : lw_in (Cond.selects RX11 yX11_chance yX11_chance) := ⟨List.mem_of_getElem? (i := 1814) (by decide +kernel), good_of_word (by decide +kernel)⟩
theorem dw_856 : lw_in (Cond.instanceMethod yX11_chance) := ⟨List.mem_of_getElem? (i := 1813) (by decide +kernel), good_of_word (by decide +kernel)⟩
theorem dw_857 : lw_in (Cond.methodLink R_law 80 yX11_chance) := ⟨List.mem_of_getElem? (i := 1812) (by decide +kernel), good_of_word (by decide +kernel)⟩
set_option maxRecDepth 100000 in
theorem dw_858 : lw_in (Cond.code yX10_all cX10_all 1 (some .int)) := ⟨List.mem_of_getElem? (i := 1046) rfl, good_of_word (by decide +kernel)⟩
theorem dw_859 : lw_in (Cond.selects RX2 yX2_oddsOfAll yX2_oddsOfAll) := ⟨List.mem_of_getElem? (i := 65) (by decide +kernel), good_of_word (by decide +kernel)⟩
theorem dw_860 : lw_in (Cond.instanceMethod yX2_oddsOfAll) := ⟨List.mem_of_getElem? (i := 1049) (by decide +kernel), good_of_word (by decide +kernel)⟩
set_option maxRecDepth 100000 in
theorem dw_861 : lw_in (Cond.code yX2_oddsOfAll cX2_oddsOfAll 7 (some .int)) := ⟨List.mem_of_getElem? (i := 1050) rfl, good_of_word (by decide +kernel)⟩
theorem dw_862 : lw_in (Cond.selects RX10 yX10_all yX10_all) := ⟨List.mem_of_getElem? (i := 1045) (by decide +kernel), good_of_word (by decide +kernel)⟩
theorem dw_863 : lw_in (Cond.instanceMethod yX10_all) := ⟨List.mem_of_getElem? (i := 1044) (by decide +kernel), good_of_word (by decide +kernel)⟩
theorem dw_864 : lw_in (Cond.methodLink R_law 81 yX10_all) := ⟨List.mem_of_getElem? (i := 1043) (by decide +kernel), good_of_word (by decide +kernel)⟩
set_option maxRecDepth 100000 in
theorem dw_865 : lw_in (Cond.code yX11_all cX11_all 3 (some .int)) := ⟨List.mem_of_getElem? (i := 1827) rfl, good_of_word (by decide +kernel)⟩
theorem dw_866 : lw_in (Cond.selects RX11 yX11_sumAt yX11_sumAt) := ⟨List.mem_of_getElem? (i := 154) (by decide +kernel), good_of_word (by decide +kernel)⟩
theorem dw_867 : lw_in (Cond.instanceMethod yX11_sumAt) := ⟨List.mem_of_getElem? (i := 1830) (by decide +kernel), good_of_word (by decide +kernel)⟩
theorem dw_868 : lw_in (Cond.methodLink RX11 395 yX11_sumAt) := ⟨List.mem_of_getElem? (i := 1828) (by decide +kernel), good_of_word (by decide +kernel)⟩
set_option maxRecDepth 100000 in
theorem dw_869 : lw_in (Cond.code yX11_sumAt cX11_sumAt 4 (some .int)) := ⟨List.mem_of_getElem? (i := 1831) rfl, good_of_word (by decide +kernel)⟩
theorem dw_870 : lw_in (Cond.selects RX11 yX11_all yX11_all) := ⟨List.mem_of_getElem? (i := 1826) (by decide +kernel), good_of_word (by decide +kernel)⟩
theorem dw_871 : lw_in (Cond.instanceMethod yX11_all) := ⟨List.mem_of_getElem? (i := 1825) (by decide +kernel), good_of_word (by decide +kernel)⟩
theorem dw_872 : lw_in (Cond.methodLink R_law 84 yX11_all) := ⟨List.mem_of_getElem? (i := 1824) (by decide +kernel), good_of_word (by decide +kernel)⟩
set_option maxRecDepth 100000 in
theorem dw_873 : lw_in (Cond.code yX10_likeliest cX10_likeliest 1 (some .int)) := ⟨List.mem_of_getElem? (i := 1054) rfl, good_of_word (by decide +kernel)⟩
theorem dw_874 : lw_in (Cond.selects RX2 yX2_bestGuess yX2_bestGuess) := ⟨List.mem_of_getElem? (i := 66) (by decide +kernel), good_of_word (by decide +kernel)⟩
theorem dw_875 : lw_in (Cond.instanceMethod yX2_bestGuess) := ⟨List.mem_of_getElem? (i := 1057) (by decide +kernel), good_of_word (by decide +kernel)⟩
set_option maxRecDepth 100000 in
theorem dw_876 : lw_in (Cond.code yX2_bestGuess cX2_bestGuess 6 (some .int)) := ⟨List.mem_of_getElem? (i := 1058) rfl, good_of_word (by decide +kernel)⟩
theorem dw_877 : lw_in (Cond.selects RX2 yX2_bestThing yX2_bestThing) := ⟨List.mem_of_getElem? (i := 67) (by decide +kernel), good_of_word (by decide +kernel)⟩
theorem dw_878 : lw_in (Cond.instanceMethod yX2_bestThing) := ⟨List.mem_of_getElem? (i := 1061) (by decide +kernel), good_of_word (by decide +kernel)⟩
theorem dw_879 : lw_in (Cond.methodLink RX2 68 yX2_bestThing) := ⟨List.mem_of_getElem? (i := 1059) (by decide +kernel), good_of_word (by decide +kernel)⟩
set_option maxRecDepth 100000 in
theorem dw_880 : lw_in (Cond.code yX2_bestThing cX2_bestThing 8 (some .int)) := ⟨List.mem_of_getElem? (i := 1062) rfl, good_of_word (by decide +kernel)⟩
theorem dw_881 : lw_in (Cond.selects RX10 yX10_likeliest yX10_likeliest) := ⟨List.mem_of_getElem? (i := 1053) (by decide +kernel), good_of_word (by decide +kernel)⟩
theorem dw_882 : lw_in (Cond.instanceMethod yX10_likeliest) := ⟨List.mem_of_getElem? (i := 1052) (by decide +kernel), good_of_word (by decide +kernel)⟩
theorem dw_883 : lw_in (Cond.methodLink R_law 85 yX10_likeliest) := ⟨List.mem_of_getElem? (i := 1051) (by decide +kernel), good_of_word (by decide +kernel)⟩
set_option maxRecDepth 100000 in
theorem dw_884 : lw_in (Cond.code yX11_likeliest cX11_likeliest 1 (some .int)) := ⟨List.mem_of_getElem? (i := 1835) rfl, good_of_word (by decide +kernel)⟩
theorem dw_885 : lw_in (Cond.selects RX11 yX11_bestFor yX11_bestFor) := ⟨List.mem_of_getElem? (i := 155) (by decide +kernel), good_of_word (by decide +kernel)⟩
theorem dw_886 : lw_in (Cond.instanceMethod yX11_bestFor) := ⟨List.mem_of_getElem? (i := 1838) (by decide +kernel), good_of_word (by decide +kernel)⟩
theorem dw_887 : lw_in (Cond.methodLink RX11 398 yX11_bestFor) := ⟨List.mem_of_getElem? (i := 1836) (by decide +kernel), good_of_word (by decide +kernel)⟩
set_option maxRecDepth 100000 in
theorem dw_888 : lw_in (Cond.code yX11_bestFor cX11_bestFor 6 (some .int)) := ⟨List.mem_of_getElem? (i := 1839) rfl, good_of_word (by decide +kernel)⟩
theorem dw_889 : lw_in (Cond.selects RX11 yX11_likeliest yX11_likeliest) := ⟨List.mem_of_getElem? (i := 1834) (by decide +kernel), good_of_word (by decide +kernel)⟩
theorem dw_890 : lw_in (Cond.instanceMethod yX11_likeliest) := ⟨List.mem_of_getElem? (i := 1833) (by decide +kernel), good_of_word (by decide +kernel)⟩
theorem dw_891 : lw_in (Cond.methodLink R_law 88 yX11_likeliest) := ⟨List.mem_of_getElem? (i := 1832) (by decide +kernel), good_of_word (by decide +kernel)⟩
set_option maxRecDepth 100000 in
theorem dw_892 : lw_in (Cond.code yX10_bears cX10_bears 3 (some .int)) := ⟨List.mem_of_getElem? (i := 1067) rfl, good_of_word (by decide +kernel)⟩
theorem dw_893 : lw_in (Cond.selects RX2 yX2_borneOver yX2_borneOver) := ⟨List.mem_of_getElem? (i := 68) (by decide +kernel), good_of_word (by decide +kernel)⟩
theorem dw_894 : lw_in (Cond.instanceMethod yX2_borneOver) := ⟨List.mem_of_getElem? (i := 1070) (by decide +kernel), good_of_word (by decide +kernel)⟩
set_option maxRecDepth 100000 in
theorem dw_895 : lw_in (Cond.code yX2_borneOver cX2_borneOver 5 (some .int)) := ⟨List.mem_of_getElem? (i := 1071) rfl, good_of_word (by decide +kernel)⟩
theorem dw_896 : lw_in (Cond.selects RX10 yX10_bears yX10_bears) := ⟨List.mem_of_getElem? (i := 1066) (by decide +kernel), good_of_word (by decide +kernel)⟩
theorem dw_897 : lw_in (Cond.instanceMethod yX10_bears) := ⟨List.mem_of_getElem? (i := 1065) (by decide +kernel), good_of_word (by decide +kernel)⟩
theorem dw_898 : lw_in (Cond.methodLink R_law 89 yX10_bears) := ⟨List.mem_of_getElem? (i := 1064) (by decide +kernel), good_of_word (by decide +kernel)⟩
set_option maxRecDepth 100000 in
theorem dw_899 : lw_in (Cond.code yX11_bears cX11_bears 3 (some .int)) := ⟨List.mem_of_getElem? (i := 1843) rfl, good_of_word (by decide +kernel)⟩
theorem dw_900 : lw_in (Cond.selects RX11 yX11_bears yX11_bears) := ⟨List.mem_of_getElem? (i := 1842) (by decide +kernel), good_of_word (by decide +kernel)⟩
theorem dw_901 : lw_in (Cond.instanceMethod yX11_bears) := ⟨List.mem_of_getElem? (i := 1841) (by decide +kernel), good_of_word (by decide +kernel)⟩
theorem dw_902 : lw_in (Cond.methodLink R_law 92 yX11_bears) := ⟨List.mem_of_getElem? (i := 1840) (by decide +kernel), good_of_word (by decide +kernel)⟩
set_option maxRecDepth 100000 in
theorem dw_903 : lw_in (Cond.code yX10_safest cX10_safest 2 (some .int)) := ⟨List.mem_of_getElem? (i := 1076) rfl, good_of_word (by decide +kernel)⟩
theorem dw_904 : lw_in (Cond.selects RX10 yX10_safest yX10_safest) := ⟨List.mem_of_getElem? (i := 1075) (by decide +kernel), good_of_word (by decide +kernel)⟩
theorem dw_905 : lw_in (Cond.instanceMethod yX10_safest) := ⟨List.mem_of_getElem? (i := 1074) (by decide +kernel), good_of_word (by decide +kernel)⟩
theorem dw_906 : lw_in (Cond.methodLink R_law 93 yX10_safest) := ⟨List.mem_of_getElem? (i := 1073) (by decide +kernel), good_of_word (by decide +kernel)⟩
set_option maxRecDepth 100000 in
theorem dw_907 : lw_in (Cond.code yX11_safest cX11_safest 2 (some .int)) := ⟨List.mem_of_getElem? (i := 1847) rfl, good_of_word (by decide +kernel)⟩
theorem dw_908 : lw_in (Cond.selects RX11 yX11_safest yX11_safest) := ⟨List.mem_of_getElem? (i := 1846) (by decide +kernel), good_of_word (by decide +kernel)⟩
theorem dw_909 : lw_in (Cond.instanceMethod yX11_safest) := ⟨List.mem_of_getElem? (i := 1845) (by decide +kernel), good_of_word (by decide +kernel)⟩
theorem dw_910 : lw_in (Cond.methodLink R_law 96 yX11_safest) := ⟨List.mem_of_getElem? (i := 1844) (by decide +kernel), good_of_word (by decide +kernel)⟩
set_option maxRecDepth 100000 in
theorem dw_911 : lw_in (Cond.code yX10_enough cX10_enough 1 (some .int)) := ⟨List.mem_of_getElem? (i := 1080) rfl, good_of_word (by decide +kernel)⟩
theorem dw_912 : lw_in (Cond.selects RX2 yX2_goesAtMost yX2_goesAtMost) := ⟨List.mem_of_getElem? (i := 69) (by decide +kernel), good_of_word (by decide +kernel)⟩
theorem dw_913 : lw_in (Cond.instanceMethod yX2_goesAtMost) := ⟨List.mem_of_getElem? (i := 1083) (by decide +kernel), good_of_word (by decide +kernel)⟩
set_option maxRecDepth 100000 in
theorem dw_914 : lw_in (Cond.code yX2_goesAtMost cX2_goesAtMost 4 (some .int)) := ⟨List.mem_of_getElem? (i := 1084) rfl, good_of_word (by decide +kernel)⟩
theorem dw_915 : lw_in (Cond.selects RX10 yX10_enough yX10_enough) := ⟨List.mem_of_getElem? (i := 1079) (by decide +kernel), good_of_word (by decide +kernel)⟩
theorem dw_916 : lw_in (Cond.instanceMethod yX10_enough) := ⟨List.mem_of_getElem? (i := 1078) (by decide +kernel), good_of_word (by decide +kernel)⟩
theorem dw_917 : lw_in (Cond.methodLink R_law 97 yX10_enough) := ⟨List.mem_of_getElem? (i := 1077) (by decide +kernel), good_of_word (by decide +kernel)⟩
set_option maxRecDepth 100000 in
theorem dw_918 : lw_in (Cond.code yX11_enough cX11_enough 3 (some .int)) := ⟨List.mem_of_getElem? (i := 1851) rfl, good_of_word (by decide +kernel)⟩
theorem dw_919 : lw_in (Cond.selects RX11 yX11_enough yX11_enough) := ⟨List.mem_of_getElem? (i := 1850) (by decide +kernel), good_of_word (by decide +kernel)⟩
theorem dw_920 : lw_in (Cond.instanceMethod yX11_enough) := ⟨List.mem_of_getElem? (i := 1849) (by decide +kernel), good_of_word (by decide +kernel)⟩
theorem dw_921 : lw_in (Cond.methodLink R_law 100 yX11_enough) := ⟨List.mem_of_getElem? (i := 1848) (by decide +kernel), good_of_word (by decide +kernel)⟩
set_option maxRecDepth 100000 in
theorem dw_922 : lw_in (Cond.code yX10_left cX10_left 2 (some .int)) := ⟨List.mem_of_getElem? (i := 1088) rfl, good_of_word (by decide +kernel)⟩
theorem dw_923 : lw_in (Cond.selects RX2 yX2_leftBehind yX2_leftBehind) := ⟨List.mem_of_getElem? (i := 70) (by decide +kernel), good_of_word (by decide +kernel)⟩
theorem dw_924 : lw_in (Cond.instanceMethod yX2_leftBehind) := ⟨List.mem_of_getElem? (i := 1091) (by decide +kernel), good_of_word (by decide +kernel)⟩
set_option maxRecDepth 100000 in
theorem dw_925 : lw_in (Cond.code yX2_leftBehind cX2_leftBehind 7 (some .int)) := ⟨List.mem_of_getElem? (i := 1092) rfl, good_of_word (by decide +kernel)⟩
theorem dw_926 : lw_in (Cond.methodLink RX2 79 Lib.Math.max.name) := ⟨List.mem_of_getElem? (i := 1093) (by decide +kernel), good_of_word (by decide +kernel)⟩
theorem dw_927 : lw_in (Cond.selects RX10 yX10_left yX10_left) := ⟨List.mem_of_getElem? (i := 1087) (by decide +kernel), good_of_word (by decide +kernel)⟩
theorem dw_928 : lw_in (Cond.instanceMethod yX10_left) := ⟨List.mem_of_getElem? (i := 1086) (by decide +kernel), good_of_word (by decide +kernel)⟩
theorem dw_929 : lw_in (Cond.methodLink R_law 101 yX10_left) := ⟨List.mem_of_getElem? (i := 1085) (by decide +kernel), good_of_word (by decide +kernel)⟩
set_option maxRecDepth 100000 in
theorem dw_930 : lw_in (Cond.code yX11_left cX11_left 2 (some .int)) := ⟨List.mem_of_getElem? (i := 1855) rfl, good_of_word (by decide +kernel)⟩
theorem dw_931 : lw_in (Cond.selects RX11 yX11_leftOf yX11_leftOf) := ⟨List.mem_of_getElem? (i := 156) (by decide +kernel), good_of_word (by decide +kernel)⟩
theorem dw_932 : lw_in (Cond.instanceMethod yX11_leftOf) := ⟨List.mem_of_getElem? (i := 1858) (by decide +kernel), good_of_word (by decide +kernel)⟩
theorem dw_933 : lw_in (Cond.methodLink RX11 401 yX11_leftOf) := ⟨List.mem_of_getElem? (i := 1856) (by decide +kernel), good_of_word (by decide +kernel)⟩
set_option maxRecDepth 100000 in
theorem dw_934 : lw_in (Cond.code yX11_leftOf cX11_leftOf 7 (some .int)) := ⟨List.mem_of_getElem? (i := 1859) rfl, good_of_word (by decide +kernel)⟩
theorem dw_935 : lw_in (Cond.selects RX11 yX11_left yX11_left) := ⟨List.mem_of_getElem? (i := 1854) (by decide +kernel), good_of_word (by decide +kernel)⟩
theorem dw_936 : lw_in (Cond.instanceMethod yX11_left) := ⟨List.mem_of_getElem? (i := 1853) (by decide +kernel), good_of_word (by decide +kernel)⟩
theorem dw_937 : lw_in (Cond.methodLink R_law 104 yX11_left) := ⟨List.mem_of_getElem? (i := 1852) (by decide +kernel), good_of_word (by decide +kernel)⟩
set_option maxRecDepth 100000 in
theorem dw_938 : lw_in (Cond.code yX10_wisest cX10_wisest 3 (some .int)) := ⟨List.mem_of_getElem? (i := 1097) rfl, good_of_word (by decide +kernel)⟩
theorem dw_939 : lw_in (Cond.selects RX2 yX2_wisestGuess yX2_wisestGuess) := ⟨List.mem_of_getElem? (i := 71) (by decide +kernel), good_of_word (by decide +kernel)⟩
theorem dw_940 : lw_in (Cond.instanceMethod yX2_wisestGuess) := ⟨List.mem_of_getElem? (i := 1100) (by decide +kernel), good_of_word (by decide +kernel)⟩
set_option maxRecDepth 100000 in
theorem dw_941 : lw_in (Cond.code yX2_wisestGuess cX2_wisestGuess 5 (some .int)) := ⟨List.mem_of_getElem? (i := 1101) rfl, good_of_word (by decide +kernel)⟩
theorem dw_942 : lw_in (Cond.static yJ6_numberOfTrailingZeros_0f7a4) := ⟨List.mem_of_getElem? (i := 1103) (by decide +kernel), good_of_word (by decide +kernel)⟩
theorem dw_943 : lw_in (Cond.methodLink RX2 84 yJ6_numberOfTrailingZeros_0f7a4) := ⟨List.mem_of_getElem? (i := 1102) (by decide +kernel), good_of_word (by decide +kernel)⟩
set_option maxRecDepth 100000 in
theorem dw_944 : lw_in (Cond.code yJ6_numberOfTrailingZeros_0f7a4 cJ6_numberOfTrailingZeros_0f7a4 2 (some .int)) := ⟨List.mem_of_getElem? (i := 1104) rfl, good_of_word (by decide +kernel)⟩
theorem dw_945 : lw_in (Cond.constant RJ6 264 (65536)) := ⟨List.mem_of_getElem? (i := 1105) (by decide +kernel), good_of_word (by decide +kernel)⟩
theorem dw_946 : lw_in (Cond.selects RX10 yX10_wisest yX10_wisest) := ⟨List.mem_of_getElem? (i := 1096) (by decide +kernel), good_of_word (by decide +kernel)⟩
theorem dw_947 : lw_in (Cond.instanceMethod yX10_wisest) := ⟨List.mem_of_getElem? (i := 1095) (by decide +kernel), good_of_word (by decide +kernel)⟩
theorem dw_948 : lw_in (Cond.methodLink R_law 105 yX10_wisest) := ⟨List.mem_of_getElem? (i := 1094) (by decide +kernel), good_of_word (by decide +kernel)⟩
set_option maxRecDepth 100000 in
theorem dw_949 : lw_in (Cond.code yX11_wisest cX11_wisest 6 (some .int)) := ⟨List.mem_of_getElem? (i := 1863) rfl, good_of_word (by decide +kernel)⟩
theorem dw_950 : lw_in (Cond.selects RX11 yX11_wisest yX11_wisest) := ⟨List.mem_of_getElem? (i := 1862) (by decide +kernel), good_of_word (by decide +kernel)⟩
theorem dw_951 : lw_in (Cond.instanceMethod yX11_wisest) := ⟨List.mem_of_getElem? (i := 1861) (by decide +kernel), good_of_word (by decide +kernel)⟩
theorem dw_952 : lw_in (Cond.methodLink R_law 108 yX11_wisest) := ⟨List.mem_of_getElem? (i := 1860) (by decide +kernel), good_of_word (by decide +kernel)⟩
set_option maxRecDepth 100000 in
theorem dw_953 : lw_in (Cond.code yX10_rank cX10_rank 3 (some .int)) := ⟨List.mem_of_getElem? (i := 1109) rfl, good_of_word (by decide +kernel)⟩
theorem dw_954 : lw_in (Cond.selects RX2 yX2_casesAheadOf yX2_casesAheadOf) := ⟨List.mem_of_getElem? (i := 72) (by decide +kernel), good_of_word (by decide +kernel)⟩
theorem dw_955 : lw_in (Cond.instanceMethod yX2_casesAheadOf) := ⟨List.mem_of_getElem? (i := 1112) (by decide +kernel), good_of_word (by decide +kernel)⟩
set_option maxRecDepth 100000 in
theorem dw_956 : lw_in (Cond.code yX2_casesAheadOf cX2_casesAheadOf 11 (some .int)) := ⟨List.mem_of_getElem? (i := 1113) rfl, good_of_word (by decide +kernel)⟩
theorem dw_957 : lw_in (Cond.selects RX2 yX2_fillFar yX2_fillFar) := ⟨List.mem_of_getElem? (i := 75) (by decide +kernel), good_of_word (by decide +kernel)⟩
theorem dw_958 : lw_in (Cond.instanceMethod yX2_fillFar) := ⟨List.mem_of_getElem? (i := 1125) (by decide +kernel), good_of_word (by decide +kernel)⟩
theorem dw_959 : lw_in (Cond.methodLink RX2 98 yX2_fillFar) := ⟨List.mem_of_getElem? (i := 1123) (by decide +kernel), good_of_word (by decide +kernel)⟩
theorem dw_960 : lw_in (Cond.selects RX2 yX2_fillNear yX2_fillNear) := ⟨List.mem_of_getElem? (i := 73) (by decide +kernel), good_of_word (by decide +kernel)⟩
theorem dw_961 : lw_in (Cond.instanceMethod yX2_fillNear) := ⟨List.mem_of_getElem? (i := 1116) (by decide +kernel), good_of_word (by decide +kernel)⟩
theorem dw_962 : lw_in (Cond.methodLink RX2 94 yX2_fillNear) := ⟨List.mem_of_getElem? (i := 1114) (by decide +kernel), good_of_word (by decide +kernel)⟩
theorem dw_963 : lw_in (Cond.fieldLink RX2 9 "GuessFerry$Outlook" "near" "[I") := ⟨List.mem_of_getElem? (i := 551) (by decide +kernel), good_of_word (by decide +kernel)⟩
theorem dw_964 : lw_in (Cond.fieldLink RX2 15 "GuessFerry$Outlook" "far" "[I") := ⟨List.mem_of_getElem? (i := 552) (by decide +kernel), good_of_word (by decide +kernel)⟩
set_option maxRecDepth 100000 in
theorem dw_965 : lw_in (Cond.code yX2_fillNear cX2_fillNear 2 (some .int)) := ⟨List.mem_of_getElem? (i := 1117) rfl, good_of_word (by decide +kernel)⟩
theorem dw_966 : lw_in (Cond.selects RX2 yX2_fillRow yX2_fillRow) := ⟨List.mem_of_getElem? (i := 74) (by decide +kernel), good_of_word (by decide +kernel)⟩
theorem dw_967 : lw_in (Cond.instanceMethod yX2_fillRow) := ⟨List.mem_of_getElem? (i := 1121) (by decide +kernel), good_of_word (by decide +kernel)⟩
theorem dw_968 : lw_in (Cond.methodLink RX2 90 yX2_fillRow) := ⟨List.mem_of_getElem? (i := 1119) (by decide +kernel), good_of_word (by decide +kernel)⟩
theorem dw_969 : lw_in (Cond.methodLink RX2 87 Lib.Math.min.name) := ⟨List.mem_of_getElem? (i := 1118) (by decide +kernel), good_of_word (by decide +kernel)⟩
set_option maxRecDepth 100000 in
theorem dw_970 : lw_in (Cond.code yX2_fillRow cX2_fillRow 10 (some .int)) := ⟨List.mem_of_getElem? (i := 1122) rfl, good_of_word (by decide +kernel)⟩
set_option maxRecDepth 100000 in
theorem dw_971 : lw_in (Cond.code yX2_fillFar cX2_fillFar 2 (some .int)) := ⟨List.mem_of_getElem? (i := 1126) rfl, good_of_word (by decide +kernel)⟩
theorem dw_972 : lw_in (Cond.selects RX10 yX10_rank yX10_rank) := ⟨List.mem_of_getElem? (i := 1108) (by decide +kernel), good_of_word (by decide +kernel)⟩
theorem dw_973 : lw_in (Cond.instanceMethod yX10_rank) := ⟨List.mem_of_getElem? (i := 1107) (by decide +kernel), good_of_word (by decide +kernel)⟩
theorem dw_974 : lw_in (Cond.methodLink R_law 109 yX10_rank) := ⟨List.mem_of_getElem? (i := 1106) (by decide +kernel), good_of_word (by decide +kernel)⟩
set_option maxRecDepth 100000 in
theorem dw_975 : lw_in (Cond.code yX11_rank cX11_rank 4 (some .int)) := ⟨List.mem_of_getElem? (i := 1867) rfl, good_of_word (by decide +kernel)⟩
theorem dw_976 : lw_in (Cond.selects RX11 yX11_isAhead yX11_isAhead) := ⟨List.mem_of_getElem? (i := 159) (by decide +kernel), good_of_word (by decide +kernel)⟩
theorem dw_977 : lw_in (Cond.instanceMethod yX11_isAhead) := ⟨List.mem_of_getElem? (i := 1878) (by decide +kernel), good_of_word (by decide +kernel)⟩
theorem dw_978 : lw_in (Cond.methodLink RX11 410 yX11_isAhead) := ⟨List.mem_of_getElem? (i := 1876) (by decide +kernel), good_of_word (by decide +kernel)⟩
theorem dw_979 : lw_in (Cond.selects RX11 yX11_isCase yX11_isCase) := ⟨List.mem_of_getElem? (i := 158) (by decide +kernel), good_of_word (by decide +kernel)⟩
theorem dw_980 : lw_in (Cond.instanceMethod yX11_isCase) := ⟨List.mem_of_getElem? (i := 1874) (by decide +kernel), good_of_word (by decide +kernel)⟩
theorem dw_981 : lw_in (Cond.methodLink RX11 407 yX11_isCase) := ⟨List.mem_of_getElem? (i := 1872) (by decide +kernel), good_of_word (by decide +kernel)⟩
theorem dw_982 : lw_in (Cond.selects RX11 yX11_fillsChances yX11_fillsChances) := ⟨List.mem_of_getElem? (i := 157) (by decide +kernel), good_of_word (by decide +kernel)⟩
theorem dw_983 : lw_in (Cond.instanceMethod yX11_fillsChances) := ⟨List.mem_of_getElem? (i := 1870) (by decide +kernel), good_of_word (by decide +kernel)⟩
theorem dw_984 : lw_in (Cond.methodLink RX11 404 yX11_fillsChances) := ⟨List.mem_of_getElem? (i := 1868) (by decide +kernel), good_of_word (by decide +kernel)⟩
set_option maxRecDepth 100000 in
theorem dw_985 : lw_in (Cond.code yX11_fillsChances cX11_fillsChances 2 none) := ⟨List.mem_of_getElem? (i := 1871) rfl, good_of_word (by decide +kernel)⟩
theorem dw_986 : lw_in (Cond.fieldLink RX11 113 "GuessFerryModel" "chanceBy" "[I") := ⟨List.mem_of_getElem? (i := 1413) (by decide +kernel), good_of_word (by decide +kernel)⟩
set_option maxRecDepth 100000 in
theorem dw_987 : lw_in (Cond.code yX11_isCase cX11_isCase 3 (some .boolean)) := ⟨List.mem_of_getElem? (i := 1875) rfl, good_of_word (by decide +kernel)⟩
set_option maxRecDepth 100000 in
theorem dw_988 : lw_in (Cond.code yX11_isAhead cX11_isAhead 3 (some .boolean)) := ⟨List.mem_of_getElem? (i := 1879) rfl, good_of_word (by decide +kernel)⟩
theorem dw_989 : lw_in (Cond.selects RX11 yX11_rank yX11_rank) := ⟨List.mem_of_getElem? (i := 1866) (by decide +kernel), good_of_word (by decide +kernel)⟩
theorem dw_990 : lw_in (Cond.instanceMethod yX11_rank) := ⟨List.mem_of_getElem? (i := 1865) (by decide +kernel), good_of_word (by decide +kernel)⟩
theorem dw_991 : lw_in (Cond.methodLink R_law 112 yX11_rank) := ⟨List.mem_of_getElem? (i := 1864) (by decide +kernel), good_of_word (by decide +kernel)⟩
set_option maxRecDepth 100000 in
theorem dw_992 : lw_in (Cond.code yX10_ranked cX10_ranked 2 (some .int)) := ⟨List.mem_of_getElem? (i := 1130) rfl, good_of_word (by decide +kernel)⟩
theorem dw_993 : lw_in (Cond.selects RX2 yX2_caseAtRank yX2_caseAtRank) := ⟨List.mem_of_getElem? (i := 76) (by decide +kernel), good_of_word (by decide +kernel)⟩
theorem dw_994 : lw_in (Cond.instanceMethod yX2_caseAtRank) := ⟨List.mem_of_getElem? (i := 1133) (by decide +kernel), good_of_word (by decide +kernel)⟩
set_option maxRecDepth 100000 in
theorem dw_995 : lw_in (Cond.code yX2_caseAtRank cX2_caseAtRank 9 (some .int)) := ⟨List.mem_of_getElem? (i := 1134) rfl, good_of_word (by decide +kernel)⟩
theorem dw_996 : lw_in (Cond.selects RX2 yX2_putOnTop yX2_putOnTop) := ⟨List.mem_of_getElem? (i := 77) (by decide +kernel), good_of_word (by decide +kernel)⟩
theorem dw_997 : lw_in (Cond.instanceMethod yX2_putOnTop) := ⟨List.mem_of_getElem? (i := 1138) (by decide +kernel), good_of_word (by decide +kernel)⟩
theorem dw_998 : lw_in (Cond.methodLink RX2 107 yX2_putOnTop) := ⟨List.mem_of_getElem? (i := 1136) (by decide +kernel), good_of_word (by decide +kernel)⟩
theorem dw_999 : lw_in (Cond.methodLink RX2 101 yJ7_fill_53178) := ⟨List.mem_of_getElem? (i := 1135) (by decide +kernel), good_of_word (by decide +kernel)⟩
