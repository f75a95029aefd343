theorem dw_1000 : lw_in (Cond.fieldLink RX2 18 "GuessFerry$Outlook" "topGuesses" "[I") := ⟨lw_t (tm_2 (List.mem_of_getElem? (i := 145) rfl)), good_of_word (by decide +kernel)⟩
theorem dw_1001 : lw_in (Cond.fieldLink RX2 21 "GuessFerry$Outlook" "topOdds" "[I") := ⟨lw_t (tm_2 (List.mem_of_getElem? (i := 146) rfl)), good_of_word (by decide +kernel)⟩
set_option maxRecDepth 100000 in
theorem dw_1002 : lw_in (Cond.code yX2_putOnTop cX2_putOnTop 5 none) := ⟨lw_t (tm_5 (List.mem_of_getElem? (i := 11) rfl)), good_of_word (by decide +kernel)⟩
theorem dw_1003 : lw_in (Cond.selects RX10 yX10_ranked yX10_ranked) := ⟨lw_t (tm_5 (List.mem_of_getElem? (i := 1) rfl)), good_of_word (by decide +kernel)⟩
theorem dw_1004 : lw_in (Cond.instanceMethod yX10_ranked) := ⟨lw_t (tm_5 (List.mem_of_getElem? (i := 0) rfl)), good_of_word (by decide +kernel)⟩
theorem dw_1005 : lw_in (Cond.methodLink R_law 113 yX10_ranked) := ⟨lw_t (tm_4 (List.mem_of_getElem? (i := 239) rfl)), good_of_word (by decide +kernel)⟩
set_option maxRecDepth 100000 in
theorem dw_1006 : lw_in (Cond.code yX11_ranked cX11_ranked 6 (some .int)) := ⟨lw_t (tm_8 (List.mem_of_getElem? (i := 35) rfl)), good_of_word (by decide +kernel)⟩
theorem dw_1007 : lw_in (Cond.selects RX11 yX11_ranked yX11_ranked) := ⟨lw_t (tm_8 (List.mem_of_getElem? (i := 34) rfl)), good_of_word (by decide +kernel)⟩
theorem dw_1008 : lw_in (Cond.instanceMethod yX11_ranked) := ⟨lw_t (tm_8 (List.mem_of_getElem? (i := 33) rfl)), good_of_word (by decide +kernel)⟩
theorem dw_1009 : lw_in (Cond.methodLink R_law 116 yX11_ranked) := ⟨lw_t (tm_8 (List.mem_of_getElem? (i := 32) rfl)), good_of_word (by decide +kernel)⟩
set_option maxRecDepth 100000 in
theorem dw_1010 : lw_in (Cond.code yX10_share cX10_share 3 (some .int)) := ⟨lw_t (tm_5 (List.mem_of_getElem? (i := 15) rfl)), good_of_word (by decide +kernel)⟩
theorem dw_1011 : lw_in (Cond.selects RX10 yX10_share yX10_share) := ⟨lw_t (tm_5 (List.mem_of_getElem? (i := 14) rfl)), good_of_word (by decide +kernel)⟩
theorem dw_1012 : lw_in (Cond.instanceMethod yX10_share) := ⟨lw_t (tm_5 (List.mem_of_getElem? (i := 13) rfl)), good_of_word (by decide +kernel)⟩
theorem dw_1013 : lw_in (Cond.methodLink R_law 117 yX10_share) := ⟨lw_t (tm_5 (List.mem_of_getElem? (i := 12) rfl)), good_of_word (by decide +kernel)⟩
set_option maxRecDepth 100000 in
theorem dw_1014 : lw_in (Cond.code yX11_share cX11_share 5 (some .int)) := ⟨lw_t (tm_8 (List.mem_of_getElem? (i := 39) rfl)), good_of_word (by decide +kernel)⟩
theorem dw_1015 : lw_in (Cond.selects RX11 yX11_share yX11_share) := ⟨lw_t (tm_8 (List.mem_of_getElem? (i := 38) rfl)), good_of_word (by decide +kernel)⟩
theorem dw_1016 : lw_in (Cond.instanceMethod yX11_share) := ⟨lw_t (tm_8 (List.mem_of_getElem? (i := 37) rfl)), good_of_word (by decide +kernel)⟩
theorem dw_1017 : lw_in (Cond.methodLink R_law 120 yX11_share) := ⟨lw_t (tm_8 (List.mem_of_getElem? (i := 36) rfl)), good_of_word (by decide +kernel)⟩
set_option maxRecDepth 100000 in
theorem dw_1018 : lw_in (Cond.code yX10_sure cX10_sure 3 (some .int)) := ⟨lw_t (tm_5 (List.mem_of_getElem? (i := 19) rfl)), good_of_word (by decide +kernel)⟩
theorem dw_1019 : lw_in (Cond.selects RX2 yX2_oddsOverWithin yX2_oddsOverWithin) := ⟨List.mem_of_getElem? (i := 78) rfl, good_of_word (by decide +kernel)⟩
theorem dw_1020 : lw_in (Cond.instanceMethod yX2_oddsOverWithin) := ⟨lw_t (tm_5 (List.mem_of_getElem? (i := 23) rfl)), good_of_word (by decide +kernel)⟩
theorem dw_1021 : lw_in (Cond.fieldLink RX10 39 "GuessFerry" "trial" "LGuessFerry$Standing;") := ⟨lw_t (tm_2 (List.mem_of_getElem? (i := 203) rfl)), good_of_word (by decide +kernel)⟩
set_option maxRecDepth 100000 in
theorem dw_1022 : lw_in (Cond.code yX2_oddsOverWithin cX2_oddsOverWithin 9 (some .int)) := ⟨lw_t (tm_5 (List.mem_of_getElem? (i := 24) rfl)), good_of_word (by decide +kernel)⟩
theorem dw_1023 : lw_in (Cond.methodLink RX2 111 yX2_bestGuess) := ⟨lw_t (tm_5 (List.mem_of_getElem? (i := 25) rfl)), good_of_word (by decide +kernel)⟩
theorem dw_1024 : lw_in (Cond.methodLink RX2 125 yX2_oddsOverWithin) := ⟨lw_t (tm_5 (List.mem_of_getElem? (i := 27) rfl)), good_of_word (by decide +kernel)⟩
theorem dw_1025 : lw_in (Cond.methodLink RX2 114 yX2_oddsOf) := ⟨lw_t (tm_5 (List.mem_of_getElem? (i := 26) rfl)), good_of_word (by decide +kernel)⟩
set_option maxRecDepth 100000 in
theorem dw_1026 : lw_in (Cond.code yX2_unfind cX2_unfind 4 none) := ⟨lw_t (tm_5 (List.mem_of_getElem? (i := 31) rfl)), good_of_word (by decide +kernel)⟩
theorem dw_1027 : lw_in (Cond.selects RX2 yX2_unfind yX2_unfind) := ⟨List.mem_of_getElem? (i := 79) rfl, good_of_word (by decide +kernel)⟩
theorem dw_1028 : lw_in (Cond.instanceMethod yX2_unfind) := ⟨lw_t (tm_5 (List.mem_of_getElem? (i := 30) rfl)), good_of_word (by decide +kernel)⟩
theorem dw_1029 : lw_in (Cond.methodLink RX2 131 yX2_unfind) := ⟨lw_t (tm_5 (List.mem_of_getElem? (i := 28) rfl)), good_of_word (by decide +kernel)⟩
theorem dw_1030 : lw_in (Cond.selects RX10 yX10_sure yX10_sure) := ⟨lw_t (tm_5 (List.mem_of_getElem? (i := 18) rfl)), good_of_word (by decide +kernel)⟩
theorem dw_1031 : lw_in (Cond.instanceMethod yX10_sure) := ⟨lw_t (tm_5 (List.mem_of_getElem? (i := 17) rfl)), good_of_word (by decide +kernel)⟩
theorem dw_1032 : lw_in (Cond.methodLink R_law 121 yX10_sure) := ⟨lw_t (tm_5 (List.mem_of_getElem? (i := 16) rfl)), good_of_word (by decide +kernel)⟩
set_option maxRecDepth 100000 in
theorem dw_1033 : lw_in (Cond.code yX11_sure cX11_sure 5 (some .int)) := ⟨lw_t (tm_8 (List.mem_of_getElem? (i := 43) rfl)), good_of_word (by decide +kernel)⟩
theorem dw_1034 : lw_in (Cond.selects RX11 yX11_comesOver yX11_comesOver) := ⟨List.mem_of_getElem? (i := 160) rfl, good_of_word (by decide +kernel)⟩
theorem dw_1035 : lw_in (Cond.instanceMethod yX11_comesOver) := ⟨lw_t (tm_8 (List.mem_of_getElem? (i := 46) rfl)), good_of_word (by decide +kernel)⟩
theorem dw_1036 : lw_in (Cond.methodLink RX11 413 yX11_comesOver) := ⟨lw_t (tm_8 (List.mem_of_getElem? (i := 44) rfl)), good_of_word (by decide +kernel)⟩
set_option maxRecDepth 100000 in
theorem dw_1037 : lw_in (Cond.code yX11_comesOver cX11_comesOver 6 (some .boolean)) := ⟨lw_t (tm_8 (List.mem_of_getElem? (i := 47) rfl)), good_of_word (by decide +kernel)⟩
theorem dw_1038 : lw_in (Cond.selects RX11 yX11_sure yX11_sure) := ⟨lw_t (tm_8 (List.mem_of_getElem? (i := 42) rfl)), good_of_word (by decide +kernel)⟩
theorem dw_1039 : lw_in (Cond.instanceMethod yX11_sure) := ⟨lw_t (tm_8 (List.mem_of_getElem? (i := 41) rfl)), good_of_word (by decide +kernel)⟩
theorem dw_1040 : lw_in (Cond.methodLink R_law 124 yX11_sure) := ⟨lw_t (tm_8 (List.mem_of_getElem? (i := 40) rfl)), good_of_word (by decide +kernel)⟩
set_option maxRecDepth 100000 in
theorem dw_1041 : lw_in (Cond.code yX10_alike cX10_alike 4 (some .int)) := ⟨lw_t (tm_5 (List.mem_of_getElem? (i := 35) rfl)), good_of_word (by decide +kernel)⟩
theorem dw_1042 : lw_in (Cond.methodLink RX10 232 yX10_thingIn) := ⟨lw_t (tm_5 (List.mem_of_getElem? (i := 36) rfl)), good_of_word (by decide +kernel)⟩
theorem dw_1043 : lw_in (Cond.selects RX10 yX10_alike yX10_alike) := ⟨lw_t (tm_5 (List.mem_of_getElem? (i := 34) rfl)), good_of_word (by decide +kernel)⟩
theorem dw_1044 : lw_in (Cond.instanceMethod yX10_alike) := ⟨lw_t (tm_5 (List.mem_of_getElem? (i := 33) rfl)), good_of_word (by decide +kernel)⟩
theorem dw_1045 : lw_in (Cond.methodLink R_law 125 yX10_alike) := ⟨lw_t (tm_5 (List.mem_of_getElem? (i := 32) rfl)), good_of_word (by decide +kernel)⟩
set_option maxRecDepth 100000 in
theorem dw_1046 : lw_in (Cond.code yX11_alike cX11_alike 4 (some .int)) := ⟨lw_t (tm_8 (List.mem_of_getElem? (i := 51) rfl)), good_of_word (by decide +kernel)⟩
theorem dw_1047 : lw_in (Cond.selects RX11 yX11_alike yX11_alike) := ⟨lw_t (tm_8 (List.mem_of_getElem? (i := 50) rfl)), good_of_word (by decide +kernel)⟩
theorem dw_1048 : lw_in (Cond.instanceMethod yX11_alike) := ⟨lw_t (tm_8 (List.mem_of_getElem? (i := 49) rfl)), good_of_word (by decide +kernel)⟩
theorem dw_1049 : lw_in (Cond.methodLink R_law 128 yX11_alike) := ⟨lw_t (tm_8 (List.mem_of_getElem? (i := 48) rfl)), good_of_word (by decide +kernel)⟩
set_option maxRecDepth 100000 in
theorem dw_1050 : lw_in (Cond.code yX10_sunk cX10_sunk 4 (some .int)) := ⟨lw_t (tm_5 (List.mem_of_getElem? (i := 40) rfl)), good_of_word (by decide +kernel)⟩
theorem dw_1051 : lw_in (Cond.selects RX10 yX10_sunk yX10_sunk) := ⟨lw_t (tm_5 (List.mem_of_getElem? (i := 39) rfl)), good_of_word (by decide +kernel)⟩
theorem dw_1052 : lw_in (Cond.instanceMethod yX10_sunk) := ⟨lw_t (tm_5 (List.mem_of_getElem? (i := 38) rfl)), good_of_word (by decide +kernel)⟩
theorem dw_1053 : lw_in (Cond.methodLink R_law 129 yX10_sunk) := ⟨lw_t (tm_5 (List.mem_of_getElem? (i := 37) rfl)), good_of_word (by decide +kernel)⟩
set_option maxRecDepth 100000 in
theorem dw_1054 : lw_in (Cond.code yX11_sunk cX11_sunk 4 (some .int)) := ⟨lw_t (tm_8 (List.mem_of_getElem? (i := 55) rfl)), good_of_word (by decide +kernel)⟩
theorem dw_1055 : lw_in (Cond.selects RX11 yX11_sunk yX11_sunk) := ⟨lw_t (tm_8 (List.mem_of_getElem? (i := 54) rfl)), good_of_word (by decide +kernel)⟩
theorem dw_1056 : lw_in (Cond.instanceMethod yX11_sunk) := ⟨lw_t (tm_8 (List.mem_of_getElem? (i := 53) rfl)), good_of_word (by decide +kernel)⟩
theorem dw_1057 : lw_in (Cond.methodLink R_law 132 yX11_sunk) := ⟨lw_t (tm_8 (List.mem_of_getElem? (i := 52) rfl)), good_of_word (by decide +kernel)⟩
set_option maxRecDepth 100000 in
theorem dw_1058 : lw_in (Cond.code yX10_stuck cX10_stuck 3 (some .int)) := ⟨lw_t (tm_5 (List.mem_of_getElem? (i := 44) rfl)), good_of_word (by decide +kernel)⟩
theorem dw_1059 : lw_in (Cond.selects RX10 yX10_stuck yX10_stuck) := ⟨lw_t (tm_5 (List.mem_of_getElem? (i := 43) rfl)), good_of_word (by decide +kernel)⟩
theorem dw_1060 : lw_in (Cond.instanceMethod yX10_stuck) := ⟨lw_t (tm_5 (List.mem_of_getElem? (i := 42) rfl)), good_of_word (by decide +kernel)⟩
theorem dw_1061 : lw_in (Cond.methodLink R_law 133 yX10_stuck) := ⟨lw_t (tm_5 (List.mem_of_getElem? (i := 41) rfl)), good_of_word (by decide +kernel)⟩
set_option maxRecDepth 100000 in
theorem dw_1062 : lw_in (Cond.code yX11_stuck cX11_stuck 3 (some .int)) := ⟨lw_t (tm_8 (List.mem_of_getElem? (i := 59) rfl)), good_of_word (by decide +kernel)⟩
theorem dw_1063 : lw_in (Cond.selects RX11 yX11_stuck yX11_stuck) := ⟨lw_t (tm_8 (List.mem_of_getElem? (i := 58) rfl)), good_of_word (by decide +kernel)⟩
theorem dw_1064 : lw_in (Cond.instanceMethod yX11_stuck) := ⟨lw_t (tm_8 (List.mem_of_getElem? (i := 57) rfl)), good_of_word (by decide +kernel)⟩
theorem dw_1065 : lw_in (Cond.methodLink R_law 136 yX11_stuck) := ⟨lw_t (tm_8 (List.mem_of_getElem? (i := 56) rfl)), good_of_word (by decide +kernel)⟩
set_option maxRecDepth 100000 in
theorem dw_1066 : lw_in (Cond.code yX10_spread cX10_spread 2 (some .int)) := ⟨lw_t (tm_5 (List.mem_of_getElem? (i := 48) rfl)), good_of_word (by decide +kernel)⟩
theorem dw_1067 : lw_in (Cond.selects RX2 yX2_oddsApart yX2_oddsApart) := ⟨List.mem_of_getElem? (i := 80) rfl, good_of_word (by decide +kernel)⟩
theorem dw_1068 : lw_in (Cond.instanceMethod yX2_oddsApart) := ⟨lw_t (tm_5 (List.mem_of_getElem? (i := 51) rfl)), good_of_word (by decide +kernel)⟩
set_option maxRecDepth 100000 in
theorem dw_1069 : lw_in (Cond.code yX2_oddsApart cX2_oddsApart 7 (some .int)) := ⟨lw_t (tm_5 (List.mem_of_getElem? (i := 52) rfl)), good_of_word (by decide +kernel)⟩
theorem dw_1070 : lw_in (Cond.selects RX10 yX10_spread yX10_spread) := ⟨lw_t (tm_5 (List.mem_of_getElem? (i := 47) rfl)), good_of_word (by decide +kernel)⟩
theorem dw_1071 : lw_in (Cond.instanceMethod yX10_spread) := ⟨lw_t (tm_5 (List.mem_of_getElem? (i := 46) rfl)), good_of_word (by decide +kernel)⟩
theorem dw_1072 : lw_in (Cond.methodLink R_law 137 yX10_spread) := ⟨lw_t (tm_5 (List.mem_of_getElem? (i := 45) rfl)), good_of_word (by decide +kernel)⟩
set_option maxRecDepth 100000 in
theorem dw_1073 : lw_in (Cond.code yX11_spread cX11_spread 5 (some .int)) := ⟨lw_t (tm_8 (List.mem_of_getElem? (i := 63) rfl)), good_of_word (by decide +kernel)⟩
theorem dw_1074 : lw_in (Cond.selects RX11 yX11_spread yX11_spread) := ⟨lw_t (tm_8 (List.mem_of_getElem? (i := 62) rfl)), good_of_word (by decide +kernel)⟩
theorem dw_1075 : lw_in (Cond.instanceMethod yX11_spread) := ⟨lw_t (tm_8 (List.mem_of_getElem? (i := 61) rfl)), good_of_word (by decide +kernel)⟩
theorem dw_1076 : lw_in (Cond.methodLink R_law 140 yX11_spread) := ⟨lw_t (tm_8 (List.mem_of_getElem? (i := 60) rfl)), good_of_word (by decide +kernel)⟩
set_option maxRecDepth 100000 in
theorem dw_1077 : lw_in (Cond.code yX10_dearest cX10_dearest 6 (some .int)) := ⟨lw_t (tm_5 (List.mem_of_getElem? (i := 56) rfl)), good_of_word (by decide +kernel)⟩
theorem dw_1078 : lw_in (Cond.selects RX10 yX10_dearest yX10_dearest) := ⟨lw_t (tm_5 (List.mem_of_getElem? (i := 55) rfl)), good_of_word (by decide +kernel)⟩
theorem dw_1079 : lw_in (Cond.instanceMethod yX10_dearest) := ⟨lw_t (tm_5 (List.mem_of_getElem? (i := 54) rfl)), good_of_word (by decide +kernel)⟩
theorem dw_1080 : lw_in (Cond.methodLink R_law 141 yX10_dearest) := ⟨lw_t (tm_5 (List.mem_of_getElem? (i := 53) rfl)), good_of_word (by decide +kernel)⟩
set_option maxRecDepth 100000 in
theorem dw_1081 : lw_in (Cond.code yX11_dearest cX11_dearest 4 (some .int)) := ⟨lw_t (tm_8 (List.mem_of_getElem? (i := 67) rfl)), good_of_word (by decide +kernel)⟩
theorem dw_1082 : lw_in (Cond.selects RX11 yX11_dearest yX11_dearest) := ⟨lw_t (tm_8 (List.mem_of_getElem? (i := 66) rfl)), good_of_word (by decide +kernel)⟩
theorem dw_1083 : lw_in (Cond.instanceMethod yX11_dearest) := ⟨lw_t (tm_8 (List.mem_of_getElem? (i := 65) rfl)), good_of_word (by decide +kernel)⟩
theorem dw_1084 : lw_in (Cond.methodLink R_law 144 yX11_dearest) := ⟨lw_t (tm_8 (List.mem_of_getElem? (i := 64) rfl)), good_of_word (by decide +kernel)⟩
set_option maxRecDepth 100000 in
theorem dw_1085 : lw_in (Cond.code yX10_chosen cX10_chosen 6 (some .int)) := ⟨lw_t (tm_5 (List.mem_of_getElem? (i := 60) rfl)), good_of_word (by decide +kernel)⟩
theorem dw_1086 : lw_in (Cond.selects RX10 yX10_chosen yX10_chosen) := ⟨lw_t (tm_5 (List.mem_of_getElem? (i := 59) rfl)), good_of_word (by decide +kernel)⟩
theorem dw_1087 : lw_in (Cond.instanceMethod yX10_chosen) := ⟨lw_t (tm_5 (List.mem_of_getElem? (i := 58) rfl)), good_of_word (by decide +kernel)⟩
theorem dw_1088 : lw_in (Cond.methodLink R_law 145 yX10_chosen) := ⟨lw_t (tm_5 (List.mem_of_getElem? (i := 57) rfl)), good_of_word (by decide +kernel)⟩
set_option maxRecDepth 100000 in
theorem dw_1089 : lw_in (Cond.code yX11_chosen cX11_chosen 5 (some .int)) := ⟨lw_t (tm_8 (List.mem_of_getElem? (i := 71) rfl)), good_of_word (by decide +kernel)⟩
theorem dw_1090 : lw_in (Cond.selects RX11 yX11_chosen yX11_chosen) := ⟨lw_t (tm_8 (List.mem_of_getElem? (i := 70) rfl)), good_of_word (by decide +kernel)⟩
theorem dw_1091 : lw_in (Cond.instanceMethod yX11_chosen) := ⟨lw_t (tm_8 (List.mem_of_getElem? (i := 69) rfl)), good_of_word (by decide +kernel)⟩
theorem dw_1092 : lw_in (Cond.methodLink R_law 148 yX11_chosen) := ⟨lw_t (tm_8 (List.mem_of_getElem? (i := 68) rfl)), good_of_word (by decide +kernel)⟩
set_option maxRecDepth 100000 in
theorem dw_1093 : lw_in (Cond.code yX10_allGo cX10_allGo 4 (some .int)) := ⟨lw_t (tm_5 (List.mem_of_getElem? (i := 64) rfl)), good_of_word (by decide +kernel)⟩
theorem dw_1094 : lw_in (Cond.methodLink RX10 247 yJ6_bitCount_0f7a4) := ⟨lw_t (tm_5 (List.mem_of_getElem? (i := 69) rfl)), good_of_word (by decide +kernel)⟩
theorem dw_1095 : lw_in (Cond.selects RX10 yX10_partiesThatAre yX10_partiesThatAre) := ⟨List.mem_of_getElem? (i := 81) rfl, good_of_word (by decide +kernel)⟩
theorem dw_1096 : lw_in (Cond.instanceMethod yX10_partiesThatAre) := ⟨lw_t (tm_5 (List.mem_of_getElem? (i := 67) rfl)), good_of_word (by decide +kernel)⟩
theorem dw_1097 : lw_in (Cond.methodLink RX10 244 yX10_partiesThatAre) := ⟨lw_t (tm_5 (List.mem_of_getElem? (i := 65) rfl)), good_of_word (by decide +kernel)⟩
set_option maxRecDepth 100000 in
theorem dw_1098 : lw_in (Cond.code yX10_partiesThatAre cX10_partiesThatAre 5 (some .int)) := ⟨lw_t (tm_5 (List.mem_of_getElem? (i := 68) rfl)), good_of_word (by decide +kernel)⟩
theorem dw_1099 : lw_in (Cond.selects RX10 yX10_allGo yX10_allGo) := ⟨lw_t (tm_5 (List.mem_of_getElem? (i := 63) rfl)), good_of_word (by decide +kernel)⟩
theorem dw_1100 : lw_in (Cond.instanceMethod yX10_allGo) := ⟨lw_t (tm_5 (List.mem_of_getElem? (i := 62) rfl)), good_of_word (by decide +kernel)⟩
theorem dw_1101 : lw_in (Cond.methodLink R_law 149 yX10_allGo) := ⟨lw_t (tm_5 (List.mem_of_getElem? (i := 61) rfl)), good_of_word (by decide +kernel)⟩
set_option maxRecDepth 100000 in
theorem dw_1102 : lw_in (Cond.code yX11_allGo cX11_allGo 5 (some .int)) := ⟨lw_t (tm_8 (List.mem_of_getElem? (i := 75) rfl)), good_of_word (by decide +kernel)⟩
theorem dw_1103 : lw_in (Cond.selects RX11 yX11_manyIn yX11_manyIn) := ⟨List.mem_of_getElem? (i := 161) rfl, good_of_word (by decide +kernel)⟩
theorem dw_1104 : lw_in (Cond.instanceMethod yX11_manyIn) := ⟨lw_t (tm_8 (List.mem_of_getElem? (i := 78) rfl)), good_of_word (by decide +kernel)⟩
theorem dw_1105 : lw_in (Cond.methodLink RX11 416 yX11_manyIn) := ⟨lw_t (tm_8 (List.mem_of_getElem? (i := 76) rfl)), good_of_word (by decide +kernel)⟩
set_option maxRecDepth 100000 in
theorem dw_1106 : lw_in (Cond.code yX11_manyIn cX11_manyIn 4 (some .int)) := ⟨lw_t (tm_8 (List.mem_of_getElem? (i := 79) rfl)), good_of_word (by decide +kernel)⟩
theorem dw_1107 : lw_in (Cond.selects RX11 yX11_allGo yX11_allGo) := ⟨lw_t (tm_8 (List.mem_of_getElem? (i := 74) rfl)), good_of_word (by decide +kernel)⟩
theorem dw_1108 : lw_in (Cond.instanceMethod yX11_allGo) := ⟨lw_t (tm_8 (List.mem_of_getElem? (i := 73) rfl)), good_of_word (by decide +kernel)⟩
theorem dw_1109 : lw_in (Cond.methodLink R_law 152 yX11_allGo) := ⟨lw_t (tm_8 (List.mem_of_getElem? (i := 72) rfl)), good_of_word (by decide +kernel)⟩
set_option maxRecDepth 100000 in
theorem dw_1110 : lw_in (Cond.code yX10_darers cX10_darers 3 (some .int)) := ⟨lw_t (tm_5 (List.mem_of_getElem? (i := 73) rfl)), good_of_word (by decide +kernel)⟩
theorem dw_1111 : lw_in (Cond.selects RX10 yX10_darers yX10_darers) := ⟨lw_t (tm_5 (List.mem_of_getElem? (i := 72) rfl)), good_of_word (by decide +kernel)⟩
theorem dw_1112 : lw_in (Cond.instanceMethod yX10_darers) := ⟨lw_t (tm_5 (List.mem_of_getElem? (i := 71) rfl)), good_of_word (by decide +kernel)⟩
theorem dw_1113 : lw_in (Cond.methodLink R_law 153 yX10_darers) := ⟨lw_t (tm_5 (List.mem_of_getElem? (i := 70) rfl)), good_of_word (by decide +kernel)⟩
set_option maxRecDepth 100000 in
theorem dw_1114 : lw_in (Cond.code yX11_darers cX11_darers 3 (some .int)) := ⟨lw_t (tm_8 (List.mem_of_getElem? (i := 83) rfl)), good_of_word (by decide +kernel)⟩
theorem dw_1115 : lw_in (Cond.selects RX11 yX11_darers yX11_darers) := ⟨lw_t (tm_8 (List.mem_of_getElem? (i := 82) rfl)), good_of_word (by decide +kernel)⟩
theorem dw_1116 : lw_in (Cond.instanceMethod yX11_darers) := ⟨lw_t (tm_8 (List.mem_of_getElem? (i := 81) rfl)), good_of_word (by decide +kernel)⟩
theorem dw_1117 : lw_in (Cond.methodLink R_law 156 yX11_darers) := ⟨lw_t (tm_8 (List.mem_of_getElem? (i := 80) rfl)), good_of_word (by decide +kernel)⟩
set_option maxRecDepth 100000 in
theorem dw_1118 : lw_in (Cond.code yX10_open cX10_open 3 (some .int)) := ⟨lw_t (tm_5 (List.mem_of_getElem? (i := 77) rfl)), good_of_word (by decide +kernel)⟩
theorem dw_1119 : lw_in (Cond.selects RX10 yX10_open yX10_open) := ⟨lw_t (tm_5 (List.mem_of_getElem? (i := 76) rfl)), good_of_word (by decide +kernel)⟩
theorem dw_1120 : lw_in (Cond.instanceMethod yX10_open) := ⟨lw_t (tm_5 (List.mem_of_getElem? (i := 75) rfl)), good_of_word (by decide +kernel)⟩
theorem dw_1121 : lw_in (Cond.methodLink R_law 157 yX10_open) := ⟨lw_t (tm_5 (List.mem_of_getElem? (i := 74) rfl)), good_of_word (by decide +kernel)⟩
set_option maxRecDepth 100000 in
theorem dw_1122 : lw_in (Cond.code yX11_open cX11_open 3 (some .int)) := ⟨lw_t (tm_8 (List.mem_of_getElem? (i := 87) rfl)), good_of_word (by decide +kernel)⟩
theorem dw_1123 : lw_in (Cond.selects RX11 yX11_open yX11_open) := ⟨lw_t (tm_8 (List.mem_of_getElem? (i := 86) rfl)), good_of_word (by decide +kernel)⟩
theorem dw_1124 : lw_in (Cond.instanceMethod yX11_open) := ⟨lw_t (tm_8 (List.mem_of_getElem? (i := 85) rfl)), good_of_word (by decide +kernel)⟩
theorem dw_1125 : lw_in (Cond.methodLink R_law 160 yX11_open) := ⟨lw_t (tm_8 (List.mem_of_getElem? (i := 84) rfl)), good_of_word (by decide +kernel)⟩
set_option maxRecDepth 100000 in
theorem dw_1126 : lw_in (Cond.code yX10_then cX10_then 4 (some .int)) := ⟨lw_t (tm_5 (List.mem_of_getElem? (i := 81) rfl)), good_of_word (by decide +kernel)⟩
theorem dw_1127 : lw_in (Cond.selects RX10 yX10_then yX10_then) := ⟨lw_t (tm_5 (List.mem_of_getElem? (i := 80) rfl)), good_of_word (by decide +kernel)⟩
theorem dw_1128 : lw_in (Cond.instanceMethod yX10_then) := ⟨lw_t (tm_5 (List.mem_of_getElem? (i := 79) rfl)), good_of_word (by decide +kernel)⟩
theorem dw_1129 : lw_in (Cond.methodLink R_law 161 yX10_then) := ⟨lw_t (tm_5 (List.mem_of_getElem? (i := 78) rfl)), good_of_word (by decide +kernel)⟩
set_option maxRecDepth 100000 in
theorem dw_1130 : lw_in (Cond.code yX11_then cX11_then 4 (some .int)) := ⟨lw_t (tm_8 (List.mem_of_getElem? (i := 91) rfl)), good_of_word (by decide +kernel)⟩
theorem dw_1131 : lw_in (Cond.selects RX11 yX11_then yX11_then) := ⟨lw_t (tm_8 (List.mem_of_getElem? (i := 90) rfl)), good_of_word (by decide +kernel)⟩
theorem dw_1132 : lw_in (Cond.instanceMethod yX11_then) := ⟨lw_t (tm_8 (List.mem_of_getElem? (i := 89) rfl)), good_of_word (by decide +kernel)⟩
theorem dw_1133 : lw_in (Cond.methodLink R_law 164 yX11_then) := ⟨lw_t (tm_8 (List.mem_of_getElem? (i := 88) rfl)), good_of_word (by decide +kernel)⟩
set_option maxRecDepth 100000 in
theorem dw_1134 : lw_in (Cond.code yX10_next cX10_next 3 (some .int)) := ⟨lw_t (tm_5 (List.mem_of_getElem? (i := 85) rfl)), good_of_word (by decide +kernel)⟩
theorem dw_1135 : lw_in (Cond.selects RX10 yX10_next yX10_next) := ⟨lw_t (tm_5 (List.mem_of_getElem? (i := 84) rfl)), good_of_word (by decide +kernel)⟩
theorem dw_1136 : lw_in (Cond.instanceMethod yX10_next) := ⟨lw_t (tm_5 (List.mem_of_getElem? (i := 83) rfl)), good_of_word (by decide +kernel)⟩
theorem dw_1137 : lw_in (Cond.methodLink R_law 165 yX10_next) := ⟨lw_t (tm_5 (List.mem_of_getElem? (i := 82) rfl)), good_of_word (by decide +kernel)⟩
set_option maxRecDepth 100000 in
theorem dw_1138 : lw_in (Cond.code yX11_next cX11_next 3 (some .int)) := ⟨lw_t (tm_8 (List.mem_of_getElem? (i := 95) rfl)), good_of_word (by decide +kernel)⟩
theorem dw_1139 : lw_in (Cond.selects RX11 yX11_next yX11_next) := ⟨lw_t (tm_8 (List.mem_of_getElem? (i := 94) rfl)), good_of_word (by decide +kernel)⟩
theorem dw_1140 : lw_in (Cond.instanceMethod yX11_next) := ⟨lw_t (tm_8 (List.mem_of_getElem? (i := 93) rfl)), good_of_word (by decide +kernel)⟩
theorem dw_1141 : lw_in (Cond.methodLink R_law 168 yX11_next) := ⟨lw_t (tm_8 (List.mem_of_getElem? (i := 92) rfl)), good_of_word (by decide +kernel)⟩
set_option maxRecDepth 100000 in
theorem dw_1142 : lw_in (Cond.code yX10_year cX10_year 5 (some .int)) := ⟨lw_t (tm_5 (List.mem_of_getElem? (i := 89) rfl)), good_of_word (by decide +kernel)⟩
theorem dw_1143 : lw_in (Cond.selects RX0 yX0_guessThere yX0_guessThere) := ⟨List.mem_of_getElem? (i := 82) rfl, good_of_word (by decide +kernel)⟩
theorem dw_1144 : lw_in (Cond.instanceMethod yX0_guessThere) := ⟨lw_t (tm_5 (List.mem_of_getElem? (i := 92) rfl)), good_of_word (by decide +kernel)⟩
set_option maxRecDepth 100000 in
theorem dw_1145 : lw_in (Cond.code yX0_guessThere cX0_guessThere 5 (some .int)) := ⟨lw_t (tm_5 (List.mem_of_getElem? (i := 93) rfl)), good_of_word (by decide +kernel)⟩
theorem dw_1146 : lw_in (Cond.selects RX10 yX10_year yX10_year) := ⟨lw_t (tm_5 (List.mem_of_getElem? (i := 88) rfl)), good_of_word (by decide +kernel)⟩
theorem dw_1147 : lw_in (Cond.instanceMethod yX10_year) := ⟨lw_t (tm_5 (List.mem_of_getElem? (i := 87) rfl)), good_of_word (by decide +kernel)⟩
theorem dw_1148 : lw_in (Cond.methodLink R_law 169 yX10_year) := ⟨lw_t (tm_5 (List.mem_of_getElem? (i := 86) rfl)), good_of_word (by decide +kernel)⟩
set_option maxRecDepth 100000 in
theorem dw_1149 : lw_in (Cond.code yX11_year cX11_year 5 (some .int)) := ⟨lw_t (tm_8 (List.mem_of_getElem? (i := 99) rfl)), good_of_word (by decide +kernel)⟩
theorem dw_1150 : lw_in (Cond.selects RX11 yX11_year yX11_year) := ⟨lw_t (tm_8 (List.mem_of_getElem? (i := 98) rfl)), good_of_word (by decide +kernel)⟩
theorem dw_1151 : lw_in (Cond.instanceMethod yX11_year) := ⟨lw_t (tm_8 (List.mem_of_getElem? (i := 97) rfl)), good_of_word (by decide +kernel)⟩
theorem dw_1152 : lw_in (Cond.methodLink R_law 172 yX11_year) := ⟨lw_t (tm_8 (List.mem_of_getElem? (i := 96) rfl)), good_of_word (by decide +kernel)⟩
set_option maxRecDepth 100000 in
theorem dw_1153 : lw_in (Cond.code yX10_drawn cX10_drawn 5 (some .int)) := ⟨lw_t (tm_5 (List.mem_of_getElem? (i := 97) rfl)), good_of_word (by decide +kernel)⟩
theorem dw_1154 : lw_in (Cond.selects RX10 yX10_drawn yX10_drawn) := ⟨lw_t (tm_5 (List.mem_of_getElem? (i := 96) rfl)), good_of_word (by decide +kernel)⟩
theorem dw_1155 : lw_in (Cond.instanceMethod yX10_drawn) := ⟨lw_t (tm_5 (List.mem_of_getElem? (i := 95) rfl)), good_of_word (by decide +kernel)⟩
theorem dw_1156 : lw_in (Cond.methodLink R_law 173 yX10_drawn) := ⟨lw_t (tm_5 (List.mem_of_getElem? (i := 94) rfl)), good_of_word (by decide +kernel)⟩
set_option maxRecDepth 100000 in
theorem dw_1157 : lw_in (Cond.code yX11_drawn cX11_drawn 5 (some .int)) := ⟨lw_t (tm_8 (List.mem_of_getElem? (i := 103) rfl)), good_of_word (by decide +kernel)⟩
theorem dw_1158 : lw_in (Cond.selects RX11 yX11_drawn yX11_drawn) := ⟨lw_t (tm_8 (List.mem_of_getElem? (i := 102) rfl)), good_of_word (by decide +kernel)⟩
theorem dw_1159 : lw_in (Cond.instanceMethod yX11_drawn) := ⟨lw_t (tm_8 (List.mem_of_getElem? (i := 101) rfl)), good_of_word (by decide +kernel)⟩
theorem dw_1160 : lw_in (Cond.methodLink R_law 176 yX11_drawn) := ⟨lw_t (tm_8 (List.mem_of_getElem? (i := 100) rfl)), good_of_word (by decide +kernel)⟩
set_option maxRecDepth 100000 in
theorem dw_1161 : lw_in (Cond.code yX10_tell cX10_tell 4 (some .int)) := ⟨lw_t (tm_5 (List.mem_of_getElem? (i := 102) rfl)), good_of_word (by decide +kernel)⟩
theorem dw_1162 : lw_in (Cond.selects RX8 yX8_add yX8_add) := ⟨List.mem_of_getElem? (i := 83) rfl, good_of_word (by decide +kernel)⟩
theorem dw_1163 : lw_in (Cond.initialized RX8) := ⟨lw_t (tm_1 (List.mem_of_getElem? (i := 15) rfl)), good_of_word (by decide +kernel)⟩
theorem dw_1164 : lw_in (Cond.instanceMethod yX8_add) := ⟨lw_t (tm_5 (List.mem_of_getElem? (i := 105) rfl)), good_of_word (by decide +kernel)⟩
set_option maxRecDepth 100000 in
theorem dw_1165 : lw_in (Cond.code yX8_add cX8_add 3 (some .int)) := ⟨lw_t (tm_5 (List.mem_of_getElem? (i := 106) rfl)), good_of_word (by decide +kernel)⟩
theorem dw_1166 : lw_in (Cond.fieldLink RX8 15 "GuessFerry$Tellers" "toldThings" "[I") := ⟨lw_t (tm_2 (List.mem_of_getElem? (i := 169) rfl)), good_of_word (by decide +kernel)⟩
theorem dw_1167 : lw_in (Cond.fieldLink RX8 9 "GuessFerry$Tellers" "toldWaves" "[I") := ⟨lw_t (tm_2 (List.mem_of_getElem? (i := 168) rfl)), good_of_word (by decide +kernel)⟩
theorem dw_1168 : lw_in (Cond.fieldLink RX8 35 "GuessFerry$Tellers" "told" "I") := ⟨lw_t (tm_2 (List.mem_of_getElem? (i := 173) rfl)), good_of_word (by decide +kernel)⟩
theorem dw_1169 : lw_in (Cond.selects RX10 yX10_tell yX10_tell) := ⟨lw_t (tm_5 (List.mem_of_getElem? (i := 101) rfl)), good_of_word (by decide +kernel)⟩
theorem dw_1170 : lw_in (Cond.instanceMethod yX10_tell) := ⟨lw_t (tm_5 (List.mem_of_getElem? (i := 100) rfl)), good_of_word (by decide +kernel)⟩
theorem dw_1171 : lw_in (Cond.methodLink R_law 177 yX10_tell) := ⟨lw_t (tm_5 (List.mem_of_getElem? (i := 99) rfl)), good_of_word (by decide +kernel)⟩
set_option maxRecDepth 100000 in
theorem dw_1172 : lw_in (Cond.code yX11_tell cX11_tell 4 (some .int)) := ⟨lw_t (tm_8 (List.mem_of_getElem? (i := 107) rfl)), good_of_word (by decide +kernel)⟩
theorem dw_1173 : lw_in (Cond.fieldLink RX11 122 "GuessFerryModel" "toldSo" "[Z") := ⟨lw_t (tm_6 (List.mem_of_getElem? (i := 49) rfl)), good_of_word (by decide +kernel)⟩
theorem dw_1174 : lw_in (Cond.fieldLink RX11 119 "GuessFerryModel" "toldThings" "[I") := ⟨lw_t (tm_6 (List.mem_of_getElem? (i := 48) rfl)), good_of_word (by decide +kernel)⟩
theorem dw_1175 : lw_in (Cond.fieldLink RX11 116 "GuessFerryModel" "toldWave" "[I") := ⟨lw_t (tm_6 (List.mem_of_getElem? (i := 47) rfl)), good_of_word (by decide +kernel)⟩
theorem dw_1176 : lw_in (Cond.selects RX11 yX11_tell yX11_tell) := ⟨lw_t (tm_8 (List.mem_of_getElem? (i := 106) rfl)), good_of_word (by decide +kernel)⟩
theorem dw_1177 : lw_in (Cond.instanceMethod yX11_tell) := ⟨lw_t (tm_8 (List.mem_of_getElem? (i := 105) rfl)), good_of_word (by decide +kernel)⟩
theorem dw_1178 : lw_in (Cond.methodLink R_law 181 yX11_tell) := ⟨lw_t (tm_8 (List.mem_of_getElem? (i := 104) rfl)), good_of_word (by decide +kernel)⟩
set_option maxRecDepth 100000 in
theorem dw_1179 : lw_in (Cond.code yX10_forget cX10_forget 2 (some .int)) := ⟨lw_t (tm_5 (List.mem_of_getElem? (i := 110) rfl)), good_of_word (by decide +kernel)⟩
theorem dw_1180 : lw_in (Cond.selects RX10 yX10_forget yX10_forget) := ⟨lw_t (tm_5 (List.mem_of_getElem? (i := 109) rfl)), good_of_word (by decide +kernel)⟩
theorem dw_1181 : lw_in (Cond.instanceMethod yX10_forget) := ⟨lw_t (tm_5 (List.mem_of_getElem? (i := 108) rfl)), good_of_word (by decide +kernel)⟩
theorem dw_1182 : lw_in (Cond.methodLink R_law 182 yX10_forget) := ⟨lw_t (tm_5 (List.mem_of_getElem? (i := 107) rfl)), good_of_word (by decide +kernel)⟩
set_option maxRecDepth 100000 in
theorem dw_1183 : lw_in (Cond.code yX11_forget cX11_forget 2 (some .int)) := ⟨lw_t (tm_8 (List.mem_of_getElem? (i := 111) rfl)), good_of_word (by decide +kernel)⟩
theorem dw_1184 : lw_in (Cond.selects RX11 yX11_forget yX11_forget) := ⟨lw_t (tm_8 (List.mem_of_getElem? (i := 110) rfl)), good_of_word (by decide +kernel)⟩
theorem dw_1185 : lw_in (Cond.instanceMethod yX11_forget) := ⟨lw_t (tm_8 (List.mem_of_getElem? (i := 109) rfl)), good_of_word (by decide +kernel)⟩
theorem dw_1186 : lw_in (Cond.methodLink R_law 185 yX11_forget) := ⟨lw_t (tm_8 (List.mem_of_getElem? (i := 108) rfl)), good_of_word (by decide +kernel)⟩
set_option maxRecDepth 100000 in
theorem dw_1187 : lw_in (Cond.code yX10_fit cX10_fit 4 (some .int)) := ⟨lw_t (tm_5 (List.mem_of_getElem? (i := 114) rfl)), good_of_word (by decide +kernel)⟩
theorem dw_1188 : lw_in (Cond.selects RX8 yX8_fitting yX8_fitting) := ⟨List.mem_of_getElem? (i := 87) rfl, good_of_word (by decide +kernel)⟩
theorem dw_1189 : lw_in (Cond.instanceMethod yX8_fitting) := ⟨lw_t (tm_5 (List.mem_of_getElem? (i := 132) rfl)), good_of_word (by decide +kernel)⟩
theorem dw_1190 : lw_in (Cond.selects RX8 yX8_believe yX8_believe) := ⟨List.mem_of_getElem? (i := 85) rfl, good_of_word (by decide +kernel)⟩
theorem dw_1191 : lw_in (Cond.instanceMethod yX8_believe) := ⟨lw_t (tm_5 (List.mem_of_getElem? (i := 121) rfl)), good_of_word (by decide +kernel)⟩
theorem dw_1192 : lw_in (Cond.selects RX8 yX8_areSuch yX8_areSuch) := ⟨List.mem_of_getElem? (i := 84) rfl, good_of_word (by decide +kernel)⟩
theorem dw_1193 : lw_in (Cond.instanceMethod yX8_areSuch) := ⟨lw_t (tm_5 (List.mem_of_getElem? (i := 117) rfl)), good_of_word (by decide +kernel)⟩
set_option maxRecDepth 100000 in
theorem dw_1194 : lw_in (Cond.code yX8_areSuch cX8_areSuch 3 (some .boolean)) := ⟨lw_t (tm_5 (List.mem_of_getElem? (i := 118) rfl)), good_of_word (by decide +kernel)⟩
set_option maxRecDepth 100000 in
theorem dw_1195 : lw_in (Cond.code yX8_believe cX8_believe 7 none) := ⟨lw_t (tm_5 (List.mem_of_getElem? (i := 122) rfl)), good_of_word (by decide +kernel)⟩
theorem dw_1196 : lw_in (Cond.selects RX8 yX8_beliedBy yX8_beliedBy) := ⟨List.mem_of_getElem? (i := 86) rfl, good_of_word (by decide +kernel)⟩
theorem dw_1197 : lw_in (Cond.instanceMethod yX8_beliedBy) := ⟨lw_t (tm_5 (List.mem_of_getElem? (i := 128) rfl)), good_of_word (by decide +kernel)⟩
theorem dw_1198 : lw_in (Cond.methodLink RX8 58 yX8_beliedBy) := ⟨lw_t (tm_5 (List.mem_of_getElem? (i := 126) rfl)), good_of_word (by decide +kernel)⟩
theorem dw_1199 : lw_in (Cond.fieldLink RX8 21 "GuessFerry$Tellers" "belied" "[I") := ⟨lw_t (tm_2 (List.mem_of_getElem? (i := 171) rfl)), good_of_word (by decide +kernel)⟩
theorem dw_1200 : lw_in (Cond.fieldLink RX8 18 "GuessFerry$Tellers" "odds" "[I") := ⟨lw_t (tm_2 (List.mem_of_getElem? (i := 170) rfl)), good_of_word (by decide +kernel)⟩
theorem dw_1201 : lw_in (Cond.fieldLink RX8 31 "GuessFerry$Tellers" "crossing" "LGuessFerry$Crossing;") := ⟨lw_t (tm_2 (List.mem_of_getElem? (i := 167) rfl)), good_of_word (by decide +kernel)⟩
theorem dw_1202 : lw_in (Cond.fieldLink RX8 27 "GuessFerry$Tellers" "sound" "LGuessFerry$Sound;") := ⟨lw_t (tm_2 (List.mem_of_getElem? (i := 166) rfl)), good_of_word (by decide +kernel)⟩
set_option maxRecDepth 100000 in
theorem dw_1203 : lw_in (Cond.code yX8_beliedBy cX8_beliedBy 6 (some .int)) := ⟨lw_t (tm_5 (List.mem_of_getElem? (i := 129) rfl)), good_of_word (by decide +kernel)⟩
set_option maxRecDepth 100000 in
theorem dw_1204 : lw_in (Cond.code yX8_fitting cX8_fitting 3 (some .int)) := ⟨lw_t (tm_5 (List.mem_of_getElem? (i := 133) rfl)), good_of_word (by decide +kernel)⟩
theorem dw_1205 : lw_in (Cond.selects RX8 yX8_upTo yX8_upTo) := ⟨List.mem_of_getElem? (i := 90) rfl, good_of_word (by decide +kernel)⟩
theorem dw_1206 : lw_in (Cond.instanceMethod yX8_upTo) := ⟨lw_t (tm_5 (List.mem_of_getElem? (i := 145) rfl)), good_of_word (by decide +kernel)⟩
theorem dw_1207 : lw_in (Cond.methodLink RX8 76 yX8_upTo) := ⟨lw_t (tm_5 (List.mem_of_getElem? (i := 143) rfl)), good_of_word (by decide +kernel)⟩
theorem dw_1208 : lw_in (Cond.selects RX8 yX8_sortByLies yX8_sortByLies) := ⟨List.mem_of_getElem? (i := 88) rfl, good_of_word (by decide +kernel)⟩
theorem dw_1209 : lw_in (Cond.instanceMethod yX8_sortByLies) := ⟨lw_t (tm_5 (List.mem_of_getElem? (i := 136) rfl)), good_of_word (by decide +kernel)⟩
theorem dw_1210 : lw_in (Cond.methodLink RX8 72 yX8_sortByLies) := ⟨lw_t (tm_5 (List.mem_of_getElem? (i := 134) rfl)), good_of_word (by decide +kernel)⟩
set_option maxRecDepth 100000 in
theorem dw_1211 : lw_in (Cond.code yX8_sortByLies cX8_sortByLies 5 none) := ⟨lw_t (tm_5 (List.mem_of_getElem? (i := 137) rfl)), good_of_word (by decide +kernel)⟩
theorem dw_1212 : lw_in (Cond.selects RX8 yX8_withWave yX8_withWave) := ⟨List.mem_of_getElem? (i := 89) rfl, good_of_word (by decide +kernel)⟩
theorem dw_1213 : lw_in (Cond.instanceMethod yX8_withWave) := ⟨lw_t (tm_5 (List.mem_of_getElem? (i := 141) rfl)), good_of_word (by decide +kernel)⟩
theorem dw_1214 : lw_in (Cond.methodLink RX8 68 yX8_withWave) := ⟨lw_t (tm_5 (List.mem_of_getElem? (i := 139) rfl)), good_of_word (by decide +kernel)⟩
theorem dw_1215 : lw_in (Cond.methodLink RX8 62 yJ7_fill_53178) := ⟨lw_t (tm_5 (List.mem_of_getElem? (i := 138) rfl)), good_of_word (by decide +kernel)⟩
theorem dw_1216 : lw_in (Cond.fieldLink RX8 24 "GuessFerry$Tellers" "byLies" "[I") := ⟨lw_t (tm_2 (List.mem_of_getElem? (i := 172) rfl)), good_of_word (by decide +kernel)⟩
set_option maxRecDepth 100000 in
theorem dw_1217 : lw_in (Cond.code yX8_withWave cX8_withWave 7 (some .int)) := ⟨lw_t (tm_5 (List.mem_of_getElem? (i := 142) rfl)), good_of_word (by decide +kernel)⟩
set_option maxRecDepth 100000 in
theorem dw_1218 : lw_in (Cond.code yX8_upTo cX8_upTo 4 (some .int)) := ⟨lw_t (tm_5 (List.mem_of_getElem? (i := 146) rfl)), good_of_word (by decide +kernel)⟩
theorem dw_1219 : lw_in (Cond.selects RX10 yX10_fit yX10_fit) := ⟨lw_t (tm_5 (List.mem_of_getElem? (i := 113) rfl)), good_of_word (by decide +kernel)⟩
theorem dw_1220 : lw_in (Cond.instanceMethod yX10_fit) := ⟨lw_t (tm_5 (List.mem_of_getElem? (i := 112) rfl)), good_of_word (by decide +kernel)⟩
theorem dw_1221 : lw_in (Cond.methodLink R_law 186 yX10_fit) := ⟨lw_t (tm_5 (List.mem_of_getElem? (i := 111) rfl)), good_of_word (by decide +kernel)⟩
set_option maxRecDepth 100000 in
theorem dw_1222 : lw_in (Cond.code yX11_fit cX11_fit 6 (some .int)) := ⟨lw_t (tm_8 (List.mem_of_getElem? (i := 115) rfl)), good_of_word (by decide +kernel)⟩
theorem dw_1223 : lw_in (Cond.selects RX11 yX11_doesFit yX11_doesFit) := ⟨List.mem_of_getElem? (i := 163) rfl, good_of_word (by decide +kernel)⟩
theorem dw_1224 : lw_in (Cond.instanceMethod yX11_doesFit) := ⟨lw_t (tm_8 (List.mem_of_getElem? (i := 122) rfl)), good_of_word (by decide +kernel)⟩
theorem dw_1225 : lw_in (Cond.methodLink RX11 425 yX11_doesFit) := ⟨lw_t (tm_8 (List.mem_of_getElem? (i := 120) rfl)), good_of_word (by decide +kernel)⟩
theorem dw_1226 : lw_in (Cond.selects RX11 yX11_isAsked yX11_isAsked) := ⟨List.mem_of_getElem? (i := 162) rfl, good_of_word (by decide +kernel)⟩
theorem dw_1227 : lw_in (Cond.instanceMethod yX11_isAsked) := ⟨lw_t (tm_8 (List.mem_of_getElem? (i := 118) rfl)), good_of_word (by decide +kernel)⟩
theorem dw_1228 : lw_in (Cond.methodLink RX11 422 yX11_isAsked) := ⟨lw_t (tm_8 (List.mem_of_getElem? (i := 116) rfl)), good_of_word (by decide +kernel)⟩
set_option maxRecDepth 100000 in
theorem dw_1229 : lw_in (Cond.code yX11_isAsked cX11_isAsked 3 (some .boolean)) := ⟨lw_t (tm_8 (List.mem_of_getElem? (i := 119) rfl)), good_of_word (by decide +kernel)⟩
set_option maxRecDepth 100000 in
theorem dw_1230 : lw_in (Cond.code yX11_doesFit cX11_doesFit 6 (some .boolean)) := ⟨lw_t (tm_8 (List.mem_of_getElem? (i := 123) rfl)), good_of_word (by decide +kernel)⟩
theorem dw_1231 : lw_in (Cond.selects RX11 yX11_isSo yX11_isSo) := ⟨List.mem_of_getElem? (i := 164) rfl, good_of_word (by decide +kernel)⟩
theorem dw_1232 : lw_in (Cond.instanceMethod yX11_isSo) := ⟨lw_t (tm_8 (List.mem_of_getElem? (i := 126) rfl)), good_of_word (by decide +kernel)⟩
theorem dw_1233 : lw_in (Cond.methodLink RX11 419 yX11_isSo) := ⟨lw_t (tm_8 (List.mem_of_getElem? (i := 124) rfl)), good_of_word (by decide +kernel)⟩
set_option maxRecDepth 100000 in
theorem dw_1234 : lw_in (Cond.code yX11_isSo cX11_isSo 3 (some .boolean)) := ⟨lw_t (tm_8 (List.mem_of_getElem? (i := 127) rfl)), good_of_word (by decide +kernel)⟩
theorem dw_1235 : lw_in (Cond.selects RX11 yX11_fit yX11_fit) := ⟨lw_t (tm_8 (List.mem_of_getElem? (i := 114) rfl)), good_of_word (by decide +kernel)⟩
theorem dw_1236 : lw_in (Cond.instanceMethod yX11_fit) := ⟨lw_t (tm_8 (List.mem_of_getElem? (i := 113) rfl)), good_of_word (by decide +kernel)⟩
theorem dw_1237 : lw_in (Cond.methodLink R_law 189 yX11_fit) := ⟨lw_t (tm_8 (List.mem_of_getElem? (i := 112) rfl)), good_of_word (by decide +kernel)⟩
set_option maxRecDepth 100000 in
theorem dw_1238 : lw_in (Cond.code yX10_lie cX10_lie 3 (some .int)) := ⟨lw_t (tm_5 (List.mem_of_getElem? (i := 150) rfl)), good_of_word (by decide +kernel)⟩
theorem dw_1239 : lw_in (Cond.selects RX8 yX8_liars yX8_liars) := ⟨List.mem_of_getElem? (i := 91) rfl, good_of_word (by decide +kernel)⟩
theorem dw_1240 : lw_in (Cond.instanceMethod yX8_liars) := ⟨lw_t (tm_5 (List.mem_of_getElem? (i := 153) rfl)), good_of_word (by decide +kernel)⟩
set_option maxRecDepth 100000 in
theorem dw_1241 : lw_in (Cond.code yX8_liars cX8_liars 7 (some .int)) := ⟨lw_t (tm_5 (List.mem_of_getElem? (i := 154) rfl)), good_of_word (by decide +kernel)⟩
theorem dw_1242 : lw_in (Cond.selects RX8 yX8_fittingWith yX8_fittingWith) := ⟨List.mem_of_getElem? (i := 92) rfl, good_of_word (by decide +kernel)⟩
theorem dw_1243 : lw_in (Cond.instanceMethod yX8_fittingWith) := ⟨lw_t (tm_5 (List.mem_of_getElem? (i := 157) rfl)), good_of_word (by decide +kernel)⟩
theorem dw_1244 : lw_in (Cond.methodLink RX8 80 yX8_fittingWith) := ⟨lw_t (tm_5 (List.mem_of_getElem? (i := 155) rfl)), good_of_word (by decide +kernel)⟩
set_option maxRecDepth 100000 in
theorem dw_1245 : lw_in (Cond.code yX8_fittingWith cX8_fittingWith 5 (some .int)) := ⟨lw_t (tm_5 (List.mem_of_getElem? (i := 158) rfl)), good_of_word (by decide +kernel)⟩
theorem dw_1246 : lw_in (Cond.selects RX10 yX10_lie yX10_lie) := ⟨lw_t (tm_5 (List.mem_of_getElem? (i := 149) rfl)), good_of_word (by decide +kernel)⟩
theorem dw_1247 : lw_in (Cond.instanceMethod yX10_lie) := ⟨lw_t (tm_5 (List.mem_of_getElem? (i := 148) rfl)), good_of_word (by decide +kernel)⟩
theorem dw_1248 : lw_in (Cond.methodLink R_law 190 yX10_lie) := ⟨lw_t (tm_5 (List.mem_of_getElem? (i := 147) rfl)), good_of_word (by decide +kernel)⟩
set_option maxRecDepth 100000 in
theorem dw_1249 : lw_in (Cond.code yX11_lie cX11_lie 6 (some .int)) := ⟨lw_t (tm_8 (List.mem_of_getElem? (i := 131) rfl)), good_of_word (by decide +kernel)⟩
