set_option maxRecDepth 100000 in
theorem dw_750 : lw_in (Cond.code yX5_hasParty cX5_hasParty 2 (some .boolean)) := ⟨List.mem_of_getElem? (i := 923) rfl, good_of_word (by decide +kernel)⟩
theorem dw_751 : lw_in (Cond.selects RX5 yX5_hasParty yX5_hasParty) := ⟨List.mem_of_getElem? (i := 47) (by decide +kernel), good_of_word (by decide +kernel)⟩
theorem dw_752 : lw_in (Cond.instanceMethod yX5_hasParty) := ⟨List.mem_of_getElem? (i := 922) (by decide +kernel), good_of_word (by decide +kernel)⟩
set_option maxRecDepth 100000 in
theorem dw_753 : lw_in (Cond.code yX0_setParty cX0_setParty 3 none) := ⟨List.mem_of_getElem? (i := 931) rfl, good_of_word (by decide +kernel)⟩
theorem dw_754 : lw_in (Cond.selects RX0 yX0_setParty yX0_setParty) := ⟨List.mem_of_getElem? (i := 49) (by decide +kernel), good_of_word (by decide +kernel)⟩
set_option maxRecDepth 100000 in
theorem dw_755 : lw_in (Cond.code yX0_isDaring cX0_isDaring 3 (some .boolean)) := ⟨List.mem_of_getElem? (i := 935) rfl, good_of_word (by decide +kernel)⟩
theorem dw_756 : lw_in (Cond.selects RX0 yX0_isDaring yX0_isDaring) := ⟨List.mem_of_getElem? (i := 50) (by decide +kernel), good_of_word (by decide +kernel)⟩
theorem dw_757 : lw_in (Cond.instanceMethod yX0_isDaring) := ⟨List.mem_of_getElem? (i := 934) (by decide +kernel), good_of_word (by decide +kernel)⟩
theorem dw_758 : lw_in (Cond.selects RX10 yX10_party yX10_party) := ⟨List.mem_of_getElem? (i := 918) (by decide +kernel), good_of_word (by decide +kernel)⟩
theorem dw_759 : lw_in (Cond.instanceMethod yX10_party) := ⟨List.mem_of_getElem? (i := 917) (by decide +kernel), good_of_word (by decide +kernel)⟩
theorem dw_760 : lw_in (Cond.methodLink R_law 41 yX10_party) := ⟨List.mem_of_getElem? (i := 916) (by decide +kernel), good_of_word (by decide +kernel)⟩
set_option maxRecDepth 100000 in
theorem dw_761 : lw_in (Cond.code yX11_party cX11_party 3 (some .int)) := ⟨List.mem_of_getElem? (i := 1715) rfl, good_of_word (by decide +kernel)⟩
set_option maxRecDepth 100000 in
theorem dw_762 : lw_in (Cond.code yX11_faresOf cX11_faresOf 2 (some .int)) := ⟨List.mem_of_getElem? (i := 1723) rfl, good_of_word (by decide +kernel)⟩
theorem dw_763 : lw_in (Cond.selects RX11 yX11_faresOf yX11_faresOf) := ⟨List.mem_of_getElem? (i := 137) (by decide +kernel), good_of_word (by decide +kernel)⟩
theorem dw_764 : lw_in (Cond.instanceMethod yX11_faresOf) := ⟨List.mem_of_getElem? (i := 1722) (by decide +kernel), good_of_word (by decide +kernel)⟩
theorem dw_765 : lw_in (Cond.methodLink RX11 339 yX11_faresOf) := ⟨List.mem_of_getElem? (i := 1720) (by decide +kernel), good_of_word (by decide +kernel)⟩
set_option maxRecDepth 100000 in
theorem dw_766 : lw_in (Cond.code yX11_isParty cX11_isParty 2 (some .boolean)) := ⟨List.mem_of_getElem? (i := 1719) rfl, good_of_word (by decide +kernel)⟩
theorem dw_767 : lw_in (Cond.selects RX11 yX11_isParty yX11_isParty) := ⟨List.mem_of_getElem? (i := 136) (by decide +kernel), good_of_word (by decide +kernel)⟩
theorem dw_768 : lw_in (Cond.instanceMethod yX11_isParty) := ⟨List.mem_of_getElem? (i := 1718) (by decide +kernel), good_of_word (by decide +kernel)⟩
theorem dw_769 : lw_in (Cond.methodLink RX11 358 yX11_isParty) := ⟨List.mem_of_getElem? (i := 1716) (by decide +kernel), good_of_word (by decide +kernel)⟩
set_option maxRecDepth 100000 in
theorem dw_770 : lw_in (Cond.code yX11_doesDare cX11_doesDare 2 (some .boolean)) := ⟨List.mem_of_getElem? (i := 1727) rfl, good_of_word (by decide +kernel)⟩
theorem dw_771 : lw_in (Cond.selects RX11 yX11_doesDare yX11_doesDare) := ⟨List.mem_of_getElem? (i := 138) (by decide +kernel), good_of_word (by decide +kernel)⟩
theorem dw_772 : lw_in (Cond.instanceMethod yX11_doesDare) := ⟨List.mem_of_getElem? (i := 1726) (by decide +kernel), good_of_word (by decide +kernel)⟩
theorem dw_773 : lw_in (Cond.methodLink RX11 361 yX11_doesDare) := ⟨List.mem_of_getElem? (i := 1724) (by decide +kernel), good_of_word (by decide +kernel)⟩
theorem dw_774 : lw_in (Cond.selects RX11 yX11_party yX11_party) := ⟨List.mem_of_getElem? (i := 1714) (by decide +kernel), good_of_word (by decide +kernel)⟩
theorem dw_775 : lw_in (Cond.instanceMethod yX11_party) := ⟨List.mem_of_getElem? (i := 1713) (by decide +kernel), good_of_word (by decide +kernel)⟩
theorem dw_776 : lw_in (Cond.methodLink R_law 44 yX11_party) := ⟨List.mem_of_getElem? (i := 1712) (by decide +kernel), good_of_word (by decide +kernel)⟩
set_option maxRecDepth 100000 in
theorem dw_777 : lw_in (Cond.code yX10_needs cX10_needs 4 (some .int)) := ⟨List.mem_of_getElem? (i := 939) rfl, good_of_word (by decide +kernel)⟩
set_option maxRecDepth 100000 in
theorem dw_778 : lw_in (Cond.code yX0_needOf cX0_needOf 5 (some .int)) := ⟨List.mem_of_getElem? (i := 943) rfl, good_of_word (by decide +kernel)⟩
theorem dw_779 : lw_in (Cond.selects RX0 yX0_needOf yX0_needOf) := ⟨List.mem_of_getElem? (i := 51) (by decide +kernel), good_of_word (by decide +kernel)⟩
theorem dw_780 : lw_in (Cond.instanceMethod yX0_needOf) := ⟨List.mem_of_getElem? (i := 942) (by decide +kernel), good_of_word (by decide +kernel)⟩
theorem dw_781 : lw_in (Cond.selects RX10 yX10_needs yX10_needs) := ⟨List.mem_of_getElem? (i := 938) (by decide +kernel), good_of_word (by decide +kernel)⟩
theorem dw_782 : lw_in (Cond.instanceMethod yX10_needs) := ⟨List.mem_of_getElem? (i := 937) (by decide +kernel), good_of_word (by decide +kernel)⟩
theorem dw_783 : lw_in (Cond.methodLink R_law 45 yX10_needs) := ⟨List.mem_of_getElem? (i := 936) (by decide +kernel), good_of_word (by decide +kernel)⟩
set_option maxRecDepth 100000 in
theorem dw_784 : lw_in (Cond.code yX11_needs cX11_needs 4 (some .int)) := ⟨List.mem_of_getElem? (i := 1731) rfl, good_of_word (by decide +kernel)⟩
set_option maxRecDepth 100000 in
theorem dw_785 : lw_in (Cond.code yX11_needsOf cX11_needsOf 4 (some .int)) := ⟨List.mem_of_getElem? (i := 1735) rfl, good_of_word (by decide +kernel)⟩
theorem dw_786 : lw_in (Cond.selects RX11 yX11_needsOf yX11_needsOf) := ⟨List.mem_of_getElem? (i := 139) (by decide +kernel), good_of_word (by decide +kernel)⟩
theorem dw_787 : lw_in (Cond.instanceMethod yX11_needsOf) := ⟨List.mem_of_getElem? (i := 1734) (by decide +kernel), good_of_word (by decide +kernel)⟩
theorem dw_788 : lw_in (Cond.methodLink RX11 327 yX11_needsOf) := ⟨List.mem_of_getElem? (i := 1732) (by decide +kernel), good_of_word (by decide +kernel)⟩
theorem dw_789 : lw_in (Cond.selects RX11 yX11_needs yX11_needs) := ⟨List.mem_of_getElem? (i := 1730) (by decide +kernel), good_of_word (by decide +kernel)⟩
theorem dw_790 : lw_in (Cond.instanceMethod yX11_needs) := ⟨List.mem_of_getElem? (i := 1729) (by decide +kernel), good_of_word (by decide +kernel)⟩
theorem dw_791 : lw_in (Cond.methodLink R_law 49 yX11_needs) := ⟨List.mem_of_getElem? (i := 1728) (by decide +kernel), good_of_word (by decide +kernel)⟩
set_option maxRecDepth 100000 in
theorem dw_792 : lw_in (Cond.code yX10_go cX10_go 3 (some .int)) := ⟨List.mem_of_getElem? (i := 948) rfl, good_of_word (by decide +kernel)⟩
theorem dw_793 : lw_in (Cond.fieldLink RX3 29 "GuessFerry$Past" "first" "I") := ⟨List.mem_of_getElem? (i := 515) (by decide +kernel), good_of_word (by decide +kernel)⟩
set_option maxRecDepth 100000 in
theorem dw_794 : lw_in (Cond.code yX3_remember cX3_remember 2 none) := ⟨List.mem_of_getElem? (i := 960) rfl, good_of_word (by decide +kernel)⟩
theorem dw_795 : lw_in (Cond.selects RX3 yX3_remember yX3_remember) := ⟨List.mem_of_getElem? (i := 54) (by decide +kernel), good_of_word (by decide +kernel)⟩
theorem dw_796 : lw_in (Cond.instanceMethod yX3_remember) := ⟨List.mem_of_getElem? (i := 959) (by decide +kernel), good_of_word (by decide +kernel)⟩
set_option maxRecDepth 100000 in
theorem dw_797 : lw_in (Cond.code yX5_hasGuess cX5_hasGuess 2 (some .boolean)) := ⟨List.mem_of_getElem? (i := 956) rfl, good_of_word (by decide +kernel)⟩
theorem dw_798 : lw_in (Cond.selects RX5 yX5_hasGuess yX5_hasGuess) := ⟨List.mem_of_getElem? (i := 53) (by decide +kernel), good_of_word (by decide +kernel)⟩
theorem dw_799 : lw_in (Cond.instanceMethod yX5_hasGuess) := ⟨List.mem_of_getElem? (i := 955) (by decide +kernel), good_of_word (by decide +kernel)⟩
set_option maxRecDepth 100000 in
theorem dw_800 : lw_in (Cond.code yX10_isHere cX10_isHere 2 (some .boolean)) := ⟨List.mem_of_getElem? (i := 952) rfl, good_of_word (by decide +kernel)⟩
theorem dw_801 : lw_in (Cond.selects RX10 yX10_isHere yX10_isHere) := ⟨List.mem_of_getElem? (i := 52) (by decide +kernel), good_of_word (by decide +kernel)⟩
theorem dw_802 : lw_in (Cond.instanceMethod yX10_isHere) := ⟨List.mem_of_getElem? (i := 951) (by decide +kernel), good_of_word (by decide +kernel)⟩
theorem dw_803 : lw_in (Cond.methodLink RX10 164 yX10_isHere) := ⟨List.mem_of_getElem? (i := 949) (by decide +kernel), good_of_word (by decide +kernel)⟩
theorem dw_804 : lw_in (Cond.methodLink RX0 109 yX0_fareOf) := ⟨List.mem_of_getElem? (i := 970) (by decide +kernel), good_of_word (by decide +kernel)⟩
set_option maxRecDepth 100000 in
theorem dw_805 : lw_in (Cond.code yX0_sendBy cX0_sendBy 8 (some .int)) := ⟨List.mem_of_getElem? (i := 969) rfl, good_of_word (by decide +kernel)⟩
theorem dw_806 : lw_in (Cond.selects RX0 yX0_sendBy yX0_sendBy) := ⟨List.mem_of_getElem? (i := 56) (by decide +kernel), good_of_word (by decide +kernel)⟩
theorem dw_807 : lw_in (Cond.instanceMethod yX0_sendBy) := ⟨List.mem_of_getElem? (i := 968) (by decide +kernel), good_of_word (by decide +kernel)⟩
theorem dw_808 : lw_in (Cond.methodLink RX6 40 arraycopyName) := ⟨List.mem_of_getElem? (i := 965) (by decide +kernel), good_of_word (by decide +kernel)⟩
set_option maxRecDepth 100000 in
theorem dw_809 : lw_in (Cond.code yX6_copyFrom cX6_copyFrom 2 none) := ⟨List.mem_of_getElem? (i := 964) rfl, good_of_word (by decide +kernel)⟩
theorem dw_810 : lw_in (Cond.selects RX6 yX6_copyFrom yX6_copyFrom) := ⟨List.mem_of_getElem? (i := 55) (by decide +kernel), good_of_word (by decide +kernel)⟩
theorem dw_811 : lw_in (Cond.instanceMethod yX6_copyFrom) := ⟨List.mem_of_getElem? (i := 963) (by decide +kernel), good_of_word (by decide +kernel)⟩
set_option maxRecDepth 100000 in
theorem dw_812 : lw_in (Cond.code yX0_isBearing cX0_isBearing 5 (some .boolean)) := ⟨List.mem_of_getElem? (i := 977) rfl, good_of_word (by decide +kernel)⟩
theorem dw_813 : lw_in (Cond.selects RX0 yX0_isBearing yX0_isBearing) := ⟨List.mem_of_getElem? (i := 57) (by decide +kernel), good_of_word (by decide +kernel)⟩
theorem dw_814 : lw_in (Cond.instanceMethod yX0_isBearing) := ⟨List.mem_of_getElem? (i := 976) (by decide +kernel), good_of_word (by decide +kernel)⟩
theorem dw_815 : lw_in (Cond.methodLink RX0 115 yX0_isBearing) := ⟨List.mem_of_getElem? (i := 974) (by decide +kernel), good_of_word (by decide +kernel)⟩
set_option maxRecDepth 100000 in
theorem dw_816 : lw_in (Cond.code yX10_thingIn cX10_thingIn 4 (some .int)) := ⟨List.mem_of_getElem? (i := 973) rfl, good_of_word (by decide +kernel)⟩
theorem dw_817 : lw_in (Cond.static yX10_thingIn) := ⟨List.mem_of_getElem? (i := 972) (by decide +kernel), good_of_word (by decide +kernel)⟩
theorem dw_818 : lw_in (Cond.methodLink RX0 119 yX0_thereNow) := ⟨List.mem_of_getElem? (i := 979) (by decide +kernel), good_of_word (by decide +kernel)⟩
theorem dw_819 : lw_in (Cond.methodLink RX0 102 yX0_needOf) := ⟨List.mem_of_getElem? (i := 978) (by decide +kernel), good_of_word (by decide +kernel)⟩
theorem dw_820 : lw_in (Cond.selects RX10 yX10_go yX10_go) := ⟨List.mem_of_getElem? (i := 947) (by decide +kernel), good_of_word (by decide +kernel)⟩
theorem dw_821 : lw_in (Cond.instanceMethod yX10_go) := ⟨List.mem_of_getElem? (i := 946) (by decide +kernel), good_of_word (by decide +kernel)⟩
theorem dw_822 : lw_in (Cond.methodLink R_law 50 yX10_go) := ⟨List.mem_of_getElem? (i := 945) (by decide +kernel), good_of_word (by decide +kernel)⟩
set_option maxRecDepth 100000 in
theorem dw_823 : lw_in (Cond.code yX11_go cX11_go 4 (some .int)) := ⟨List.mem_of_getElem? (i := 1739) rfl, good_of_word (by decide +kernel)⟩
set_option maxRecDepth 100000 in
theorem dw_824 : lw_in (Cond.code yX11_guesses cX11_guesses 1 (some .int)) := ⟨List.mem_of_getElem? (i := 1751) rfl, good_of_word (by decide +kernel)⟩
theorem dw_825 : lw_in (Cond.selects RX11 yX11_guesses yX11_guesses) := ⟨List.mem_of_getElem? (i := 142) (by decide +kernel), good_of_word (by decide +kernel)⟩
theorem dw_826 : lw_in (Cond.instanceMethod yX11_guesses) := ⟨List.mem_of_getElem? (i := 1750) (by decide +kernel), good_of_word (by decide +kernel)⟩
theorem dw_827 : lw_in (Cond.methodLink RX11 285 yX11_guesses) := ⟨List.mem_of_getElem? (i := 1748) (by decide +kernel), good_of_word (by decide +kernel)⟩
set_option maxRecDepth 100000 in
theorem dw_828 : lw_in (Cond.code yX11_isGuess cX11_isGuess 2 (some .boolean)) := ⟨List.mem_of_getElem? (i := 1747) rfl, good_of_word (by decide +kernel)⟩
theorem dw_829 : lw_in (Cond.selects RX11 yX11_isGuess yX11_isGuess) := ⟨List.mem_of_getElem? (i := 141) (by decide +kernel), good_of_word (by decide +kernel)⟩
theorem dw_830 : lw_in (Cond.instanceMethod yX11_isGuess) := ⟨List.mem_of_getElem? (i := 1746) (by decide +kernel), good_of_word (by decide +kernel)⟩
theorem dw_831 : lw_in (Cond.methodLink RX11 367 yX11_isGuess) := ⟨List.mem_of_getElem? (i := 1744) (by decide +kernel), good_of_word (by decide +kernel)⟩
set_option maxRecDepth 100000 in
theorem dw_832 : lw_in (Cond.code yX11_isHere cX11_isHere 2 (some .boolean)) := ⟨List.mem_of_getElem? (i := 1743) rfl, good_of_word (by decide +kernel)⟩
theorem dw_833 : lw_in (Cond.selects RX11 yX11_isHere yX11_isHere) := ⟨List.mem_of_getElem? (i := 140) (by decide +kernel), good_of_word (by decide +kernel)⟩
theorem dw_834 : lw_in (Cond.instanceMethod yX11_isHere) := ⟨List.mem_of_getElem? (i := 1742) (by decide +kernel), good_of_word (by decide +kernel)⟩
theorem dw_835 : lw_in (Cond.methodLink RX11 364 yX11_isHere) := ⟨List.mem_of_getElem? (i := 1740) (by decide +kernel), good_of_word (by decide +kernel)⟩
set_option maxRecDepth 100000 in
theorem dw_836 : lw_in (Cond.code yX11_thereNumber cX11_thereNumber 3 (some .int)) := ⟨List.mem_of_getElem? (i := 1755) rfl, good_of_word (by decide +kernel)⟩
theorem dw_837 : lw_in (Cond.selects RX11 yX11_thereNumber yX11_thereNumber) := ⟨List.mem_of_getElem? (i := 143) (by decide +kernel), good_of_word (by decide +kernel)⟩
theorem dw_838 : lw_in (Cond.instanceMethod yX11_thereNumber) := ⟨List.mem_of_getElem? (i := 1754) (by decide +kernel), good_of_word (by decide +kernel)⟩
theorem dw_839 : lw_in (Cond.methodLink RX11 370 yX11_thereNumber) := ⟨List.mem_of_getElem? (i := 1752) (by decide +kernel), good_of_word (by decide +kernel)⟩
set_option maxRecDepth 100000 in
theorem dw_840 : lw_in (Cond.code yX11_doesBear cX11_doesBear 4 (some .boolean)) := ⟨List.mem_of_getElem? (i := 1771) rfl, good_of_word (by decide +kernel)⟩
theorem dw_841 : lw_in (Cond.selects RX11 yX11_doesBear yX11_doesBear) := ⟨List.mem_of_getElem? (i := 147) (by decide +kernel), good_of_word (by decide +kernel)⟩
theorem dw_842 : lw_in (Cond.instanceMethod yX11_doesBear) := ⟨List.mem_of_getElem? (i := 1770) (by decide +kernel), good_of_word (by decide +kernel)⟩
theorem dw_843 : lw_in (Cond.methodLink RX11 333 yX11_doesBear) := ⟨List.mem_of_getElem? (i := 1768) (by decide +kernel), good_of_word (by decide +kernel)⟩
set_option maxRecDepth 100000 in
theorem dw_844 : lw_in (Cond.code yX11_thingAt cX11_thingAt 3 (some .int)) := ⟨List.mem_of_getElem? (i := 1767) rfl, good_of_word (by decide +kernel)⟩
theorem dw_845 : lw_in (Cond.selects RX11 yX11_thingAt yX11_thingAt) := ⟨List.mem_of_getElem? (i := 146) (by decide +kernel), good_of_word (by decide +kernel)⟩
theorem dw_846 : lw_in (Cond.instanceMethod yX11_thingAt) := ⟨List.mem_of_getElem? (i := 1766) (by decide +kernel), good_of_word (by decide +kernel)⟩
theorem dw_847 : lw_in (Cond.methodLink RX11 330 yX11_thingAt) := ⟨List.mem_of_getElem? (i := 1764) (by decide +kernel), good_of_word (by decide +kernel)⟩
set_option maxRecDepth 100000 in
theorem dw_848 : lw_in (Cond.code yX11_bearsBy cX11_bearsBy 4 (some .int)) := ⟨List.mem_of_getElem? (i := 1763) rfl, good_of_word (by decide +kernel)⟩
theorem dw_849 : lw_in (Cond.selects RX11 yX11_bearsBy yX11_bearsBy) := ⟨List.mem_of_getElem? (i := 145) (by decide +kernel), good_of_word (by decide +kernel)⟩
theorem dw_850 : lw_in (Cond.instanceMethod yX11_bearsBy) := ⟨List.mem_of_getElem? (i := 1762) (by decide +kernel), good_of_word (by decide +kernel)⟩
theorem dw_851 : lw_in (Cond.methodLink RX11 336 yX11_bearsBy) := ⟨List.mem_of_getElem? (i := 1760) (by decide +kernel), good_of_word (by decide +kernel)⟩
set_option maxRecDepth 100000 in
theorem dw_852 : lw_in (Cond.code yX11_goesBy cX11_goesBy 7 (some .int)) := ⟨List.mem_of_getElem? (i := 1759) rfl, good_of_word (by decide +kernel)⟩
theorem dw_853 : lw_in (Cond.selects RX11 yX11_goesBy yX11_goesBy) := ⟨List.mem_of_getElem? (i := 144) (by decide +kernel), good_of_word (by decide +kernel)⟩
theorem dw_854 : lw_in (Cond.instanceMethod yX11_goesBy) := ⟨List.mem_of_getElem? (i := 1758) (by decide +kernel), good_of_word (by decide +kernel)⟩
theorem dw_855 : lw_in (Cond.methodLink RX11 373 yX11_goesBy) := ⟨List.mem_of_getElem? (i := 1756) (by decide +kernel), good_of_word (by decide +kernel)⟩
theorem dw_856 : lw_in (Cond.selects RX11 yX11_records yX11_records) := ⟨List.mem_of_getElem? (i := 148) (by decide +kernel), good_of_word (by decide +kernel)⟩
theorem dw_857 : lw_in (Cond.instanceMethod yX11_records) := ⟨List.mem_of_getElem? (i := 1774) (by decide +kernel), good_of_word (by decide +kernel)⟩
theorem dw_858 : lw_in (Cond.methodLink RX11 376 yX11_records) := ⟨List.mem_of_getElem? (i := 1772) (by decide +kernel), good_of_word (by decide +kernel)⟩
set_option maxRecDepth 100000 in
theorem dw_859 : lw_in (Cond.code yX11_records cX11_records 2 none) := ⟨List.mem_of_getElem? (i := 1775) rfl, good_of_word (by decide +kernel)⟩
theorem dw_860 : lw_in (Cond.selects RX11 yX11_go yX11_go) := ⟨List.mem_of_getElem? (i := 1738) (by decide +kernel), good_of_word (by decide +kernel)⟩
theorem dw_861 : lw_in (Cond.instanceMethod yX11_go) := ⟨List.mem_of_getElem? (i := 1737) (by decide +kernel), good_of_word (by decide +kernel)⟩
theorem dw_862 : lw_in (Cond.methodLink R_law 53 yX11_go) := ⟨List.mem_of_getElem? (i := 1736) (by decide +kernel), good_of_word (by decide +kernel)⟩
set_option maxRecDepth 100000 in
theorem dw_863 : lw_in (Cond.code yX10_buoy cX10_buoy 4 (some .boolean)) := ⟨List.mem_of_getElem? (i := 983) rfl, good_of_word (by decide +kernel)⟩
set_option maxRecDepth 100000 in
theorem dw_864 : lw_in (Cond.code yX10_has cX10_has 2 (some .boolean)) := ⟨List.mem_of_getElem? (i := 986) rfl, good_of_word (by decide +kernel)⟩
theorem dw_865 : lw_in (Cond.static yX10_has) := ⟨List.mem_of_getElem? (i := 985) (by decide +kernel), good_of_word (by decide +kernel)⟩
theorem dw_866 : lw_in (Cond.methodLink RX10 181 yX10_has) := ⟨List.mem_of_getElem? (i := 984) (by decide +kernel), good_of_word (by decide +kernel)⟩
theorem dw_867 : lw_in (Cond.selects RX10 yX10_buoy yX10_buoy) := ⟨List.mem_of_getElem? (i := 982) (by decide +kernel), good_of_word (by decide +kernel)⟩
theorem dw_868 : lw_in (Cond.instanceMethod yX10_buoy) := ⟨List.mem_of_getElem? (i := 981) (by decide +kernel), good_of_word (by decide +kernel)⟩
theorem dw_869 : lw_in (Cond.methodLink R_law 54 yX10_buoy) := ⟨List.mem_of_getElem? (i := 980) (by decide +kernel), good_of_word (by decide +kernel)⟩
set_option maxRecDepth 100000 in
theorem dw_870 : lw_in (Cond.code yX11_buoy cX11_buoy 4 (some .boolean)) := ⟨List.mem_of_getElem? (i := 1779) rfl, good_of_word (by decide +kernel)⟩
theorem dw_871 : lw_in (Cond.selects RX11 yX11_buoy yX11_buoy) := ⟨List.mem_of_getElem? (i := 1778) (by decide +kernel), good_of_word (by decide +kernel)⟩
theorem dw_872 : lw_in (Cond.instanceMethod yX11_buoy) := ⟨List.mem_of_getElem? (i := 1777) (by decide +kernel), good_of_word (by decide +kernel)⟩
theorem dw_873 : lw_in (Cond.methodLink R_law 58 yX11_buoy) := ⟨List.mem_of_getElem? (i := 1776) (by decide +kernel), good_of_word (by decide +kernel)⟩
set_option maxRecDepth 100000 in
theorem dw_874 : lw_in (Cond.code yX10_fetch cX10_fetch 2 (some .boolean)) := ⟨List.mem_of_getElem? (i := 990) rfl, good_of_word (by decide +kernel)⟩
theorem dw_875 : lw_in (Cond.selects RX10 yX10_fetch yX10_fetch) := ⟨List.mem_of_getElem? (i := 989) (by decide +kernel), good_of_word (by decide +kernel)⟩
theorem dw_876 : lw_in (Cond.instanceMethod yX10_fetch) := ⟨List.mem_of_getElem? (i := 988) (by decide +kernel), good_of_word (by decide +kernel)⟩
theorem dw_877 : lw_in (Cond.methodLink R_law 59 yX10_fetch) := ⟨List.mem_of_getElem? (i := 987) (by decide +kernel), good_of_word (by decide +kernel)⟩
set_option maxRecDepth 100000 in
theorem dw_878 : lw_in (Cond.code yX11_fetch cX11_fetch 2 (some .boolean)) := ⟨List.mem_of_getElem? (i := 1783) rfl, good_of_word (by decide +kernel)⟩
theorem dw_879 : lw_in (Cond.selects RX11 yX11_fetch yX11_fetch) := ⟨List.mem_of_getElem? (i := 1782) (by decide +kernel), good_of_word (by decide +kernel)⟩
theorem dw_880 : lw_in (Cond.instanceMethod yX11_fetch) := ⟨List.mem_of_getElem? (i := 1781) (by decide +kernel), good_of_word (by decide +kernel)⟩
theorem dw_881 : lw_in (Cond.methodLink R_law 63 yX11_fetch) := ⟨List.mem_of_getElem? (i := 1780) (by decide +kernel), good_of_word (by decide +kernel)⟩
set_option maxRecDepth 100000 in
theorem dw_882 : lw_in (Cond.code yX10_years cX10_years 2 (some .int)) := ⟨List.mem_of_getElem? (i := 994) rfl, good_of_word (by decide +kernel)⟩
theorem dw_883 : lw_in (Cond.methodLink RX0 132 yX0_shiftsOf) := ⟨List.mem_of_getElem? (i := 1005) (by decide +kernel), good_of_word (by decide +kernel)⟩
theorem dw_884 : lw_in (Cond.constant RX0 128 (1000000)) := ⟨List.mem_of_getElem? (i := 1003) (by decide +kernel), good_of_word (by decide +kernel)⟩
set_option maxRecDepth 100000 in
theorem dw_885 : lw_in (Cond.code yX0_passYearOver cX0_passYearOver 4 none) := ⟨List.mem_of_getElem? (i := 1002) rfl, good_of_word (by decide +kernel)⟩
theorem dw_886 : lw_in (Cond.selects RX0 yX0_passYearOver yX0_passYearOver) := ⟨List.mem_of_getElem? (i := 59) (by decide +kernel), good_of_word (by decide +kernel)⟩
theorem dw_887 : lw_in (Cond.instanceMethod yX0_passYearOver) := ⟨List.mem_of_getElem? (i := 1001) (by decide +kernel), good_of_word (by decide +kernel)⟩
theorem dw_888 : lw_in (Cond.methodLink RX0 125 yX0_passYearOver) := ⟨List.mem_of_getElem? (i := 999) (by decide +kernel), good_of_word (by decide +kernel)⟩
set_option maxRecDepth 100000 in
theorem dw_889 : lw_in (Cond.code yX0_passYears cX0_passYears 5 none) := ⟨List.mem_of_getElem? (i := 998) rfl, good_of_word (by decide +kernel)⟩
theorem dw_890 : lw_in (Cond.selects RX0 yX0_passYears yX0_passYears) := ⟨List.mem_of_getElem? (i := 58) (by decide +kernel), good_of_word (by decide +kernel)⟩
theorem dw_891 : lw_in (Cond.instanceMethod yX0_passYears) := ⟨List.mem_of_getElem? (i := 997) (by decide +kernel), good_of_word (by decide +kernel)⟩
theorem dw_892 : lw_in (Cond.selects RX10 yX10_years yX10_years) := ⟨List.mem_of_getElem? (i := 993) (by decide +kernel), good_of_word (by decide +kernel)⟩
theorem dw_893 : lw_in (Cond.instanceMethod yX10_years) := ⟨List.mem_of_getElem? (i := 992) (by decide +kernel), good_of_word (by decide +kernel)⟩
theorem dw_894 : lw_in (Cond.methodLink R_law 64 yX10_years) := ⟨List.mem_of_getElem? (i := 991) (by decide +kernel), good_of_word (by decide +kernel)⟩
set_option maxRecDepth 100000 in
theorem dw_895 : lw_in (Cond.code yX11_years cX11_years 2 (some .int)) := ⟨List.mem_of_getElem? (i := 1787) rfl, good_of_word (by decide +kernel)⟩
set_option maxRecDepth 100000 in
theorem dw_896 : lw_in (Cond.code yX11_yearGoes cX11_yearGoes 2 none) := ⟨List.mem_of_getElem? (i := 1798) rfl, good_of_word (by decide +kernel)⟩
theorem dw_897 : lw_in (Cond.selects RX11 yX11_yearGoes yX11_yearGoes) := ⟨List.mem_of_getElem? (i := 150) (by decide +kernel), good_of_word (by decide +kernel)⟩
theorem dw_898 : lw_in (Cond.instanceMethod yX11_yearGoes) := ⟨List.mem_of_getElem? (i := 1797) (by decide +kernel), good_of_word (by decide +kernel)⟩
theorem dw_899 : lw_in (Cond.methodLink RX11 346 yX11_yearGoes) := ⟨List.mem_of_getElem? (i := 1795) (by decide +kernel), good_of_word (by decide +kernel)⟩
set_option maxRecDepth 100000 in
theorem dw_900 : lw_in (Cond.code yX11_yearsGo cX11_yearsGo 3 none) := ⟨List.mem_of_getElem? (i := 1794) rfl, good_of_word (by decide +kernel)⟩
theorem dw_901 : lw_in (Cond.selects RX11 yX11_yearsGo yX11_yearsGo) := ⟨List.mem_of_getElem? (i := 149) (by decide +kernel), good_of_word (by decide +kernel)⟩
theorem dw_902 : lw_in (Cond.instanceMethod yX11_yearsGo) := ⟨List.mem_of_getElem? (i := 1793) (by decide +kernel), good_of_word (by decide +kernel)⟩
theorem dw_903 : lw_in (Cond.methodLink RX11 382 yX11_yearsGo) := ⟨List.mem_of_getElem? (i := 1791) (by decide +kernel), good_of_word (by decide +kernel)⟩
set_option maxRecDepth 100000 in
theorem dw_904 : lw_in (Cond.code yX11_isLong cX11_isLong 1 (some .boolean)) := ⟨List.mem_of_getElem? (i := 1790) rfl, good_of_word (by decide +kernel)⟩
theorem dw_905 : lw_in (Cond.static yX11_isLong) := ⟨List.mem_of_getElem? (i := 1789) (by decide +kernel), good_of_word (by decide +kernel)⟩
theorem dw_906 : lw_in (Cond.methodLink RX11 379 yX11_isLong) := ⟨List.mem_of_getElem? (i := 1788) (by decide +kernel), good_of_word (by decide +kernel)⟩
theorem dw_907 : lw_in (Cond.constant RX11 342 (1000000)) := ⟨List.mem_of_getElem? (i := 1799) (by decide +kernel), good_of_word (by decide +kernel)⟩
theorem dw_908 : lw_in (Cond.selects RX11 yX11_years yX11_years) := ⟨List.mem_of_getElem? (i := 1786) (by decide +kernel), good_of_word (by decide +kernel)⟩
theorem dw_909 : lw_in (Cond.instanceMethod yX11_years) := ⟨List.mem_of_getElem? (i := 1785) (by decide +kernel), good_of_word (by decide +kernel)⟩
theorem dw_910 : lw_in (Cond.methodLink R_law 67 yX11_years) := ⟨List.mem_of_getElem? (i := 1784) (by decide +kernel), good_of_word (by decide +kernel)⟩
set_option maxRecDepth 100000 in
theorem dw_911 : lw_in (Cond.code yX10_undo cX10_undo 1 (some .boolean)) := ⟨List.mem_of_getElem? (i := 1009) rfl, good_of_word (by decide +kernel)⟩
set_option maxRecDepth 100000 in
theorem dw_912 : lw_in (Cond.code yX3_takeBack cX3_takeBack 2 (some .boolean)) := ⟨List.mem_of_getElem? (i := 1013) rfl, good_of_word (by decide +kernel)⟩
theorem dw_913 : lw_in (Cond.selects RX3 yX3_takeBack yX3_takeBack) := ⟨List.mem_of_getElem? (i := 60) (by decide +kernel), good_of_word (by decide +kernel)⟩
theorem dw_914 : lw_in (Cond.instanceMethod yX3_takeBack) := ⟨List.mem_of_getElem? (i := 1012) (by decide +kernel), good_of_word (by decide +kernel)⟩
theorem dw_915 : lw_in (Cond.selects RX10 yX10_undo yX10_undo) := ⟨List.mem_of_getElem? (i := 1008) (by decide +kernel), good_of_word (by decide +kernel)⟩
theorem dw_916 : lw_in (Cond.instanceMethod yX10_undo) := ⟨List.mem_of_getElem? (i := 1007) (by decide +kernel), good_of_word (by decide +kernel)⟩
theorem dw_917 : lw_in (Cond.methodLink R_law 68 yX10_undo) := ⟨List.mem_of_getElem? (i := 1006) (by decide +kernel), good_of_word (by decide +kernel)⟩
set_option maxRecDepth 100000 in
theorem dw_918 : lw_in (Cond.code yX11_undo cX11_undo 2 (some .boolean)) := ⟨List.mem_of_getElem? (i := 1803) rfl, good_of_word (by decide +kernel)⟩
theorem dw_919 : lw_in (Cond.selects RX11 yX11_undo yX11_undo) := ⟨List.mem_of_getElem? (i := 1802) (by decide +kernel), good_of_word (by decide +kernel)⟩
theorem dw_920 : lw_in (Cond.instanceMethod yX11_undo) := ⟨List.mem_of_getElem? (i := 1801) (by decide +kernel), good_of_word (by decide +kernel)⟩
theorem dw_921 : lw_in (Cond.methodLink R_law 72 yX11_undo) := ⟨List.mem_of_getElem? (i := 1800) (by decide +kernel), good_of_word (by decide +kernel)⟩
set_option maxRecDepth 100000 in
theorem dw_922 : lw_in (Cond.code yX10_cases cX10_cases 1 (some .int)) := ⟨List.mem_of_getElem? (i := 1017) rfl, good_of_word (by decide +kernel)⟩
theorem dw_923 : lw_in (Cond.methodLink RX2 38 yJ6_bitCount_0f7a4) := ⟨List.mem_of_getElem? (i := 1027) (by decide +kernel), good_of_word (by decide +kernel)⟩
set_option maxRecDepth 100000 in
theorem dw_924 : lw_in (Cond.code yX2_mayCount cX2_mayCount 3 (some .int)) := ⟨List.mem_of_getElem? (i := 1025) rfl, good_of_word (by decide +kernel)⟩
theorem dw_925 : lw_in (Cond.selects RX2 yX2_mayCount yX2_mayCount) := ⟨List.mem_of_getElem? (i := 62) (by decide +kernel), good_of_word (by decide +kernel)⟩
theorem dw_926 : lw_in (Cond.instanceMethod yX2_mayCount) := ⟨List.mem_of_getElem? (i := 1024) (by decide +kernel), good_of_word (by decide +kernel)⟩
theorem dw_927 : lw_in (Cond.methodLink RX2 50 yX2_mayCount) := ⟨List.mem_of_getElem? (i := 1022) (by decide +kernel), good_of_word (by decide +kernel)⟩
set_option maxRecDepth 100000 in
theorem dw_928 : lw_in (Cond.code yX2_caseCount cX2_caseCount 4 (some .int)) := ⟨List.mem_of_getElem? (i := 1021) rfl, good_of_word (by decide +kernel)⟩
theorem dw_929 : lw_in (Cond.selects RX2 yX2_caseCount yX2_caseCount) := ⟨List.mem_of_getElem? (i := 61) (by decide +kernel), good_of_word (by decide +kernel)⟩
theorem dw_930 : lw_in (Cond.instanceMethod yX2_caseCount) := ⟨List.mem_of_getElem? (i := 1020) (by decide +kernel), good_of_word (by decide +kernel)⟩
theorem dw_931 : lw_in (Cond.selects RX10 yX10_cases yX10_cases) := ⟨List.mem_of_getElem? (i := 1016) (by decide +kernel), good_of_word (by decide +kernel)⟩
theorem dw_932 : lw_in (Cond.instanceMethod yX10_cases) := ⟨List.mem_of_getElem? (i := 1015) (by decide +kernel), good_of_word (by decide +kernel)⟩
theorem dw_933 : lw_in (Cond.methodLink R_law 73 yX10_cases) := ⟨List.mem_of_getElem? (i := 1014) (by decide +kernel), good_of_word (by decide +kernel)⟩
set_option maxRecDepth 100000 in
theorem dw_934 : lw_in (Cond.code yX11_cases cX11_cases 1 (some .int)) := ⟨List.mem_of_getElem? (i := 1807) rfl, good_of_word (by decide +kernel)⟩
set_option maxRecDepth 100000 in
theorem dw_935 : lw_in (Cond.code yX11_casesNow cX11_casesNow 3 (some .int)) := ⟨List.mem_of_getElem? (i := 1811) rfl, good_of_word (by decide +kernel)⟩
theorem dw_936 : lw_in (Cond.selects RX11 yX11_casesNow yX11_casesNow) := ⟨List.mem_of_getElem? (i := 151) (by decide +kernel), good_of_word (by decide +kernel)⟩
theorem dw_937 : lw_in (Cond.instanceMethod yX11_casesNow) := ⟨List.mem_of_getElem? (i := 1810) (by decide +kernel), good_of_word (by decide +kernel)⟩
theorem dw_938 : lw_in (Cond.methodLink RX11 385 yX11_casesNow) := ⟨List.mem_of_getElem? (i := 1808) (by decide +kernel), good_of_word (by decide +kernel)⟩
theorem dw_939 : lw_in (Cond.selects RX11 yX11_cases yX11_cases) := ⟨List.mem_of_getElem? (i := 1806) (by decide +kernel), good_of_word (by decide +kernel)⟩
theorem dw_940 : lw_in (Cond.instanceMethod yX11_cases) := ⟨List.mem_of_getElem? (i := 1805) (by decide +kernel), good_of_word (by decide +kernel)⟩
theorem dw_941 : lw_in (Cond.methodLink R_law 76 yX11_cases) := ⟨List.mem_of_getElem? (i := 1804) (by decide +kernel), good_of_word (by decide +kernel)⟩
set_option maxRecDepth 100000 in
theorem dw_942 : lw_in (Cond.code yX10_chance cX10_chance 2 (some .int)) := ⟨List.mem_of_getElem? (i := 1031) rfl, good_of_word (by decide +kernel)⟩
set_option maxRecDepth 100000 in
theorem dw_943 : lw_in (Cond.code yX2_oddsIfMay cX2_oddsIfMay 4 (some .int)) := ⟨List.mem_of_getElem? (i := 1040) rfl, good_of_word (by decide +kernel)⟩
theorem dw_944 : lw_in (Cond.selects RX2 yX2_oddsIfMay yX2_oddsIfMay) := ⟨List.mem_of_getElem? (i := 64) (by decide +kernel), good_of_word (by decide +kernel)⟩
theorem dw_945 : lw_in (Cond.instanceMethod yX2_oddsIfMay) := ⟨List.mem_of_getElem? (i := 1039) (by decide +kernel), good_of_word (by decide +kernel)⟩
theorem dw_946 : lw_in (Cond.methodLink RX2 53 yX2_oddsIfMay) := ⟨List.mem_of_getElem? (i := 1037) (by decide +kernel), good_of_word (by decide +kernel)⟩
set_option maxRecDepth 100000 in
theorem dw_947 : lw_in (Cond.code yX2_oddsOf cX2_oddsOf 5 (some .int)) := ⟨List.mem_of_getElem? (i := 1035) rfl, good_of_word (by decide +kernel)⟩
theorem dw_948 : lw_in (Cond.selects RX2 yX2_oddsOf yX2_oddsOf) := ⟨List.mem_of_getElem? (i := 63) (by decide +kernel), good_of_word (by decide +kernel)⟩
theorem dw_949 : lw_in (Cond.instanceMethod yX2_oddsOf) := ⟨List.mem_of_getElem? (i := 1034) (by decide +kernel), good_of_word (by decide +kernel)⟩
theorem dw_950 : lw_in (Cond.selects RX10 yX10_chance yX10_chance) := ⟨List.mem_of_getElem? (i := 1030) (by decide +kernel), good_of_word (by decide +kernel)⟩
theorem dw_951 : lw_in (Cond.instanceMethod yX10_chance) := ⟨List.mem_of_getElem? (i := 1029) (by decide +kernel), good_of_word (by decide +kernel)⟩
theorem dw_952 : lw_in (Cond.methodLink R_law 77 yX10_chance) := ⟨List.mem_of_getElem? (i := 1028) (by decide +kernel), good_of_word (by decide +kernel)⟩
set_option maxRecDepth 100000 in
theorem dw_953 : lw_in (Cond.code yX11_chance cX11_chance 2 (some .int)) := ⟨List.mem_of_getElem? (i := 1815) rfl, good_of_word (by decide +kernel)⟩
theorem dw_954 : lw_in (Cond.methodLink RX11 392 yX11_chanceOf) := ⟨List.mem_of_getElem? (i := 1816) (by decide +kernel), good_of_word (by decide +kernel)⟩
set_option maxRecDepth 100000 in
theorem dw_955 : lw_in (Cond.code yX11_mayBe cX11_mayBe 3 (some .boolean)) := ⟨List.mem_of_getElem? (i := 1823) rfl, good_of_word (by decide +kernel)⟩
theorem dw_956 : lw_in (Cond.selects RX11 yX11_mayBe yX11_mayBe) := ⟨List.mem_of_getElem? (i := 153) (by decide +kernel), good_of_word (by decide +kernel)⟩
theorem dw_957 : lw_in (Cond.instanceMethod yX11_mayBe) := ⟨List.mem_of_getElem? (i := 1822) (by decide +kernel), good_of_word (by decide +kernel)⟩
theorem dw_958 : lw_in (Cond.methodLink RX11 388 yX11_mayBe) := ⟨List.mem_of_getElem? (i := 1820) (by decide +kernel), good_of_word (by decide +kernel)⟩
set_option maxRecDepth 100000 in
theorem dw_959 : lw_in (Cond.code yX11_chanceOf cX11_chanceOf 5 (some .int)) := ⟨List.mem_of_getElem? (i := 1819) rfl, good_of_word (by decide +kernel)⟩
theorem dw_960 : lw_in (Cond.selects RX11 yX11_chanceOf yX11_chanceOf) := ⟨List.mem_of_getElem? (i := 152) (by decide +kernel), good_of_word (by decide +kernel)⟩
theorem dw_961 : lw_in (Cond.instanceMethod yX11_chanceOf) := ⟨List.mem_of_getElem? (i := 1818) (by decide +kernel), good_of_word (by decide +kernel)⟩
theorem dw_962 : lw_in (Cond.selects RX11 yX11_chance yX11_chance) := ⟨List.mem_of_getElem? (i := 1814) (by decide +kernel), good_of_word (by decide +kernel)⟩
theorem dw_963 : lw_in (Cond.instanceMethod yX11_chance) := ⟨List.mem_of_getElem? (i := 1813) (by decide +kernel), good_of_word (by decide +kernel)⟩
theorem dw_964 : lw_in (Cond.methodLink R_law 80 yX11_chance) := ⟨List.mem_of_getElem? (i := 1812) (by decide +kernel), good_of_word (by decide +kernel)⟩
set_option maxRecDepth 100000 in
theorem dw_965 : lw_in (Cond.code yX10_all cX10_all 1 (some .int)) := ⟨List.mem_of_getElem? (i := 1046) rfl, good_of_word (by decide +kernel)⟩
set_option maxRecDepth 100000 in
theorem dw_966 : lw_in (Cond.code yX2_oddsOfAll cX2_oddsOfAll 7 (some .int)) := ⟨List.mem_of_getElem? (i := 1050) rfl, good_of_word (by decide +kernel)⟩
theorem dw_967 : lw_in (Cond.selects RX2 yX2_oddsOfAll yX2_oddsOfAll) := ⟨List.mem_of_getElem? (i := 65) (by decide +kernel), good_of_word (by decide +kernel)⟩
theorem dw_968 : lw_in (Cond.instanceMethod yX2_oddsOfAll) := ⟨List.mem_of_getElem? (i := 1049) (by decide +kernel), good_of_word (by decide +kernel)⟩
theorem dw_969 : lw_in (Cond.selects RX10 yX10_all yX10_all) := ⟨List.mem_of_getElem? (i := 1045) (by decide +kernel), good_of_word (by decide +kernel)⟩
theorem dw_970 : lw_in (Cond.instanceMethod yX10_all) := ⟨List.mem_of_getElem? (i := 1044) (by decide +kernel), good_of_word (by decide +kernel)⟩
theorem dw_971 : lw_in (Cond.methodLink R_law 81 yX10_all) := ⟨List.mem_of_getElem? (i := 1043) (by decide +kernel), good_of_word (by decide +kernel)⟩
set_option maxRecDepth 100000 in
theorem dw_972 : lw_in (Cond.code yX11_all cX11_all 3 (some .int)) := ⟨List.mem_of_getElem? (i := 1827) rfl, good_of_word (by decide +kernel)⟩
set_option maxRecDepth 100000 in
theorem dw_973 : lw_in (Cond.code yX11_sumAt cX11_sumAt 4 (some .int)) := ⟨List.mem_of_getElem? (i := 1831) rfl, good_of_word (by decide +kernel)⟩
theorem dw_974 : lw_in (Cond.selects RX11 yX11_sumAt yX11_sumAt) := ⟨List.mem_of_getElem? (i := 154) (by decide +kernel), good_of_word (by decide +kernel)⟩
theorem dw_975 : lw_in (Cond.instanceMethod yX11_sumAt) := ⟨List.mem_of_getElem? (i := 1830) (by decide +kernel), good_of_word (by decide +kernel)⟩
theorem dw_976 : lw_in (Cond.methodLink RX11 395 yX11_sumAt) := ⟨List.mem_of_getElem? (i := 1828) (by decide +kernel), good_of_word (by decide +kernel)⟩
theorem dw_977 : lw_in (Cond.selects RX11 yX11_all yX11_all) := ⟨List.mem_of_getElem? (i := 1826) (by decide +kernel), good_of_word (by decide +kernel)⟩
theorem dw_978 : lw_in (Cond.instanceMethod yX11_all) := ⟨List.mem_of_getElem? (i := 1825) (by decide +kernel), good_of_word (by decide +kernel)⟩
theorem dw_979 : lw_in (Cond.methodLink R_law 84 yX11_all) := ⟨List.mem_of_getElem? (i := 1824) (by decide +kernel), good_of_word (by decide +kernel)⟩
set_option maxRecDepth 100000 in
theorem dw_980 : lw_in (Cond.code yX10_likeliest cX10_likeliest 1 (some .int)) := ⟨List.mem_of_getElem? (i := 1054) rfl, good_of_word (by decide +kernel)⟩
set_option maxRecDepth 100000 in
theorem dw_981 : lw_in (Cond.code yX2_bestThing cX2_bestThing 8 (some .int)) := ⟨List.mem_of_getElem? (i := 1062) rfl, good_of_word (by decide +kernel)⟩
theorem dw_982 : lw_in (Cond.selects RX2 yX2_bestThing yX2_bestThing) := ⟨List.mem_of_getElem? (i := 67) (by decide +kernel), good_of_word (by decide +kernel)⟩
theorem dw_983 : lw_in (Cond.instanceMethod yX2_bestThing) := ⟨List.mem_of_getElem? (i := 1061) (by decide +kernel), good_of_word (by decide +kernel)⟩
theorem dw_984 : lw_in (Cond.methodLink RX2 68 yX2_bestThing) := ⟨List.mem_of_getElem? (i := 1059) (by decide +kernel), good_of_word (by decide +kernel)⟩
set_option maxRecDepth 100000 in
theorem dw_985 : lw_in (Cond.code yX2_bestGuess cX2_bestGuess 6 (some .int)) := ⟨List.mem_of_getElem? (i := 1058) rfl, good_of_word (by decide +kernel)⟩
theorem dw_986 : lw_in (Cond.selects RX2 yX2_bestGuess yX2_bestGuess) := ⟨List.mem_of_getElem? (i := 66) (by decide +kernel), good_of_word (by decide +kernel)⟩
theorem dw_987 : lw_in (Cond.instanceMethod yX2_bestGuess) := ⟨List.mem_of_getElem? (i := 1057) (by decide +kernel), good_of_word (by decide +kernel)⟩
theorem dw_988 : lw_in (Cond.selects RX10 yX10_likeliest yX10_likeliest) := ⟨List.mem_of_getElem? (i := 1053) (by decide +kernel), good_of_word (by decide +kernel)⟩
theorem dw_989 : lw_in (Cond.instanceMethod yX10_likeliest) := ⟨List.mem_of_getElem? (i := 1052) (by decide +kernel), good_of_word (by decide +kernel)⟩
theorem dw_990 : lw_in (Cond.methodLink R_law 85 yX10_likeliest) := ⟨List.mem_of_getElem? (i := 1051) (by decide +kernel), good_of_word (by decide +kernel)⟩
set_option maxRecDepth 100000 in
theorem dw_991 : lw_in (Cond.code yX11_likeliest cX11_likeliest 1 (some .int)) := ⟨List.mem_of_getElem? (i := 1835) rfl, good_of_word (by decide +kernel)⟩
set_option maxRecDepth 100000 in
theorem dw_992 : lw_in (Cond.code yX11_bestFor cX11_bestFor 6 (some .int)) := ⟨List.mem_of_getElem? (i := 1839) rfl, good_of_word (by decide +kernel)⟩
theorem dw_993 : lw_in (Cond.selects RX11 yX11_bestFor yX11_bestFor) := ⟨List.mem_of_getElem? (i := 155) (by decide +kernel), good_of_word (by decide +kernel)⟩
theorem dw_994 : lw_in (Cond.instanceMethod yX11_bestFor) := ⟨List.mem_of_getElem? (i := 1838) (by decide +kernel), good_of_word (by decide +kernel)⟩
theorem dw_995 : lw_in (Cond.methodLink RX11 398 yX11_bestFor) := ⟨List.mem_of_getElem? (i := 1836) (by decide +kernel), good_of_word (by decide +kernel)⟩
theorem dw_996 : lw_in (Cond.selects RX11 yX11_likeliest yX11_likeliest) := ⟨List.mem_of_getElem? (i := 1834) (by decide +kernel), good_of_word (by decide +kernel)⟩
theorem dw_997 : lw_in (Cond.instanceMethod yX11_likeliest) := ⟨List.mem_of_getElem? (i := 1833) (by decide +kernel), good_of_word (by decide +kernel)⟩
theorem dw_998 : lw_in (Cond.methodLink R_law 88 yX11_likeliest) := ⟨List.mem_of_getElem? (i := 1832) (by decide +kernel), good_of_word (by decide +kernel)⟩
set_option maxRecDepth 100000 in
theorem dw_999 : lw_in (Cond.code yX10_bears cX10_bears 3 (some .int)) := ⟨List.mem_of_getElem? (i := 1067) rfl, good_of_word (by decide +kernel)⟩
