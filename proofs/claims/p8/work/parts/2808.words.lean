set_option maxRecDepth 100000 in
theorem gp_wsX10_dearest : GoodIn lw_tbl wsX10_dearest := by unfold wsX10_dearest; exact (gi_cons dw_1077 (goodIn_app (goodIn_app (goodIn_app (goodIn_app (goodIn_app (goodIn_app gp_wsX10_dearest_o gp_wsX0_fareOf) gp_wsX100) gp_wsX50) gp_wsX00) gp_wsX60) gp_wsX10))
set_option maxRecDepth 100000 in
theorem gp_wsX11_dearest_o : GoodIn lw_tbl wsX11_dearest_o := by unfold wsX11_dearest_o; exact (gi_cons dw_398 (gi_cons dw_358 (gi_cons dw_570 (gi_cons dw_569 (gi_cons dw_16 (gi_cons dw_564 (gi_cons dw_563 (gi_cons dw_562 (gi_cons dw_653 (gi_cons dw_652 (gi_cons dw_651 gi_nil)))))))))))
set_option maxRecDepth 100000 in
theorem gp_wsX11_dearest : GoodIn lw_tbl wsX11_dearest := by unfold wsX11_dearest; exact (gi_cons dw_1081 (goodIn_app (goodIn_app gp_wsX11_dearest_o (goodIn_app gp_wsX11_in (goodIn_app gp_wsX11_copies gp_wsX11_faresOf))) gp_wsX110))
set_option maxRecDepth 100000 in
theorem gp_wsX10_chosen_o : GoodIn lw_tbl wsX10_chosen_o := by unfold wsX10_chosen_o; exact (gi_cons dw_50 (gi_cons dw_49 (gi_cons dw_815 (gi_cons dw_875 (gi_cons dw_813 (gi_cons dw_874 (gi_cons dw_837 (gi_cons dw_836 gi_nil))))))))
set_option maxRecDepth 100000 in
theorem gp_wsX10_chosen : GoodIn lw_tbl wsX10_chosen := by unfold wsX10_chosen; exact (gi_cons dw_1085 (goodIn_app (goodIn_app (goodIn_app (goodIn_app (goodIn_app (goodIn_app (goodIn_app gp_wsX10_chosen_o (goodIn_app gp_wsX2_bestGuess gp_wsX2_oddsOf)) gp_wsX100) gp_wsX50) gp_wsX60) gp_wsX20) gp_wsX00) gp_wsX10))
set_option maxRecDepth 100000 in
theorem gp_wsX11_chosen_o : GoodIn lw_tbl wsX11_chosen_o := by unfold wsX11_chosen_o; exact (gi_cons dw_398 (gi_cons dw_358 (gi_cons dw_564 (gi_cons dw_563 (gi_cons dw_562 (gi_cons dw_16 (gi_cons dw_725 (gi_cons dw_724 (gi_cons dw_723 (gi_cons dw_887 (gi_cons dw_886 (gi_cons dw_885 (gi_cons dw_849 (gi_cons dw_848 (gi_cons dw_847 gi_nil)))))))))))))))
set_option maxRecDepth 100000 in
theorem gp_wsX11_chosen : GoodIn lw_tbl wsX11_chosen := by unfold wsX11_chosen; exact (gi_cons dw_1089 (goodIn_app (goodIn_app gp_wsX11_chosen_o (goodIn_app gp_wsX11_copies (goodIn_app gp_wsX11_isHere (goodIn_app gp_wsX11_bestFor gp_wsX11_chanceOf)))) gp_wsX110))
set_option maxRecDepth 100000 in
theorem gp_wsX10_allGo_o : GoodIn lw_tbl wsX10_allGo_o := by unfold wsX10_allGo_o; exact (gi_cons dw_1021 (gi_cons dw_49 (gi_cons dw_50 (gi_cons dw_498 (gi_cons dw_815 (gi_cons dw_692 (gi_cons dw_39 (gi_cons dw_691 (gi_cons dw_306 (gi_cons dw_632 (gi_cons dw_494 (gi_cons dw_631 (gi_cons dw_313 (gi_cons dw_75 (gi_cons dw_875 (gi_cons dw_813 (gi_cons dw_874 (gi_cons dw_11 (gi_cons dw_43 (gi_cons dw_527 (gi_cons dw_526 (gi_cons dw_133 (gi_cons dw_680 (gi_cons dw_679 (gi_cons dw_1097 (gi_cons dw_1096 (gi_cons dw_1095 (gi_cons dw_1094 gi_nil))))))))))))))))))))))))))))
set_option maxRecDepth 100000 in
theorem gp_wsX10_partiesThatAre : GoodIn lw_tbl wsX10_partiesThatAre := by unfold wsX10_partiesThatAre; exact (gi_cons dw_1098 (goodIn_app (goodIn_app (goodIn_app (gi_cons dw_50 gi_nil) gp_wsX100) gp_wsX50) gp_wsX60))
set_option maxRecDepth 100000 in
theorem gp_wsX10_allGo : GoodIn lw_tbl wsX10_allGo := by unfold wsX10_allGo; exact (gi_cons dw_1093 (goodIn_app (goodIn_app (goodIn_app (goodIn_app (goodIn_app (goodIn_app (goodIn_app gp_wsX10_allGo_o (goodIn_app gp_wsX6_copyFrom (goodIn_app gp_wsX0_isDaring (goodIn_app gp_wsX2_bestGuess (goodIn_app gp_wsX0_sendBy (goodIn_app gp_wsX10_partiesThatAre gp_wsJ6_bitCount_0f7a4)))))) gp_wsX100) gp_wsX50) gp_wsX60) gp_wsX00) gp_wsX10) gp_wsX20))
set_option maxRecDepth 100000 in
theorem gp_wsX11_allGo_o : GoodIn lw_tbl wsX11_allGo_o := by unfold wsX11_allGo_o; exact (gi_cons dw_398 (gi_cons dw_358 (gi_cons dw_399 (gi_cons dw_474 (gi_cons dw_476 (gi_cons dw_570 (gi_cons dw_569 (gi_cons dw_16 (gi_cons dw_564 (gi_cons dw_563 (gi_cons dw_562 (gi_cons dw_719 (gi_cons dw_718 (gi_cons dw_717 (gi_cons dw_725 (gi_cons dw_724 (gi_cons dw_723 (gi_cons dw_650 (gi_cons dw_649 (gi_cons dw_648 (gi_cons dw_887 (gi_cons dw_886 (gi_cons dw_885 (gi_cons dw_716 (gi_cons dw_715 (gi_cons dw_714 (gi_cons dw_1105 (gi_cons dw_1104 (gi_cons dw_1103 gi_nil)))))))))))))))))))))))))))))
set_option maxRecDepth 100000 in
theorem gp_wsX11_manyIn : GoodIn lw_tbl wsX11_manyIn := by unfold wsX11_manyIn; exact (gi_cons dw_1106 (goodIn_app (gi_cons dw_398 (gi_cons dw_358 (gi_cons dw_474 gi_nil))) gp_wsX110))
set_option maxRecDepth 100000 in
theorem gp_wsX11_allGo : GoodIn lw_tbl wsX11_allGo := by unfold wsX11_allGo; exact (gi_cons dw_1102 (goodIn_app (goodIn_app gp_wsX11_allGo_o (goodIn_app gp_wsX11_in (goodIn_app gp_wsX11_copies (goodIn_app gp_wsX11_thereNumber (goodIn_app gp_wsX11_isHere (goodIn_app gp_wsX11_doesDare (goodIn_app gp_wsX11_bestFor (goodIn_app gp_wsX11_goesBy gp_wsX11_manyIn)))))))) gp_wsX110))
set_option maxRecDepth 100000 in
theorem gp_wsX10_darers_o : GoodIn lw_tbl wsX10_darers_o := by unfold wsX10_darers_o; exact (gi_cons dw_50 (gi_cons dw_49 (gi_cons dw_498 (gi_cons dw_632 (gi_cons dw_494 (gi_cons dw_631 gi_nil))))))
set_option maxRecDepth 100000 in
theorem gp_wsX10_darers : GoodIn lw_tbl wsX10_darers := by unfold wsX10_darers; exact (gi_cons dw_1110 (goodIn_app (goodIn_app (goodIn_app (goodIn_app (goodIn_app (goodIn_app gp_wsX10_darers_o gp_wsX0_isDaring) gp_wsX100) gp_wsX50) gp_wsX60) gp_wsX00) gp_wsX10))
set_option maxRecDepth 100000 in
theorem gp_wsX11_darers_o : GoodIn lw_tbl wsX11_darers_o := by unfold wsX11_darers_o; exact (gi_cons dw_398 (gi_cons dw_358 (gi_cons dw_564 (gi_cons dw_563 (gi_cons dw_562 (gi_cons dw_16 (gi_cons dw_725 (gi_cons dw_724 (gi_cons dw_723 (gi_cons dw_650 (gi_cons dw_649 (gi_cons dw_648 gi_nil))))))))))))
set_option maxRecDepth 100000 in
theorem gp_wsX11_darers : GoodIn lw_tbl wsX11_darers := by unfold wsX11_darers; exact (gi_cons dw_1114 (goodIn_app (goodIn_app gp_wsX11_darers_o (goodIn_app gp_wsX11_copies (goodIn_app gp_wsX11_isHere gp_wsX11_doesDare))) gp_wsX110))
set_option maxRecDepth 100000 in
theorem gp_wsX10_open_o : GoodIn lw_tbl wsX10_open_o := by unfold wsX10_open_o; exact (gi_cons dw_50 (gi_cons dw_498 (gi_cons dw_49 (gi_cons dw_495 (gi_cons dw_494 (gi_cons dw_493 (gi_cons dw_1094 (gi_cons dw_527 (gi_cons dw_526 gi_nil)))))))))
set_option maxRecDepth 100000 in
theorem gp_wsX10_open : GoodIn lw_tbl wsX10_open := by unfold wsX10_open; exact (gi_cons dw_1118 (goodIn_app (goodIn_app (goodIn_app (goodIn_app (goodIn_app gp_wsX10_open_o (goodIn_app gp_wsX0_mayBe gp_wsJ6_bitCount_0f7a4)) gp_wsX100) gp_wsX50) gp_wsX60) gp_wsX00))
set_option maxRecDepth 100000 in
theorem gp_wsX11_open_o : GoodIn lw_tbl wsX11_open_o := by unfold wsX11_open_o; exact (gi_cons dw_399 (gi_cons dw_358 (gi_cons dw_564 (gi_cons dw_563 (gi_cons dw_562 (gi_cons dw_16 (gi_cons dw_561 (gi_cons dw_560 (gi_cons dw_559 (gi_cons dw_603 (gi_cons dw_602 gi_nil)))))))))))
set_option maxRecDepth 100000 in
theorem gp_wsX11_open : GoodIn lw_tbl wsX11_open := by unfold wsX11_open; exact (gi_cons dw_1122 (goodIn_app (goodIn_app gp_wsX11_open_o (goodIn_app gp_wsX11_copies (goodIn_app gp_wsX11_mayAt gp_wsX11_bits))) gp_wsX110))
set_option maxRecDepth 100000 in
theorem gp_wsX10_then_o : GoodIn lw_tbl wsX10_then_o := by unfold wsX10_then_o; exact (gi_cons dw_50 (gi_cons dw_1021 (gi_cons dw_49 (gi_cons dw_498 (gi_cons dw_497 (gi_cons dw_43 (gi_cons dw_496 (gi_cons dw_692 (gi_cons dw_39 (gi_cons dw_691 (gi_cons dw_772 (gi_cons dw_494 (gi_cons dw_771 (gi_cons dw_495 (gi_cons dw_493 (gi_cons dw_492 (gi_cons dw_491 gi_nil)))))))))))))))))
set_option maxRecDepth 100000 in
theorem gp_wsX10_then : GoodIn lw_tbl wsX10_then := by unfold wsX10_then; exact (gi_cons dw_1126 (goodIn_app (goodIn_app (goodIn_app (goodIn_app (goodIn_app (goodIn_app gp_wsX10_then_o (goodIn_app gp_wsX5_hasWave (goodIn_app gp_wsX6_copyFrom (goodIn_app gp_wsX0_passYears (goodIn_app gp_wsX0_mayBe gp_wsX0_thereNow))))) gp_wsX100) gp_wsX60) gp_wsX50) gp_wsX00) gp_wsX10))
set_option maxRecDepth 100000 in
theorem gp_wsX11_then_o : GoodIn lw_tbl wsX11_then_o := by unfold wsX11_then_o; exact (gi_cons dw_474 (gi_cons dw_567 (gi_cons dw_566 (gi_cons dw_565 (gi_cons dw_16 (gi_cons dw_570 (gi_cons dw_569 (gi_cons dw_788 (gi_cons dw_787 (gi_cons dw_564 (gi_cons dw_563 (gi_cons dw_562 (gi_cons dw_786 (gi_cons dw_785 (gi_cons dw_784 (gi_cons dw_561 (gi_cons dw_560 (gi_cons dw_559 (gi_cons dw_558 (gi_cons dw_557 (gi_cons dw_556 gi_nil)))))))))))))))))))))
set_option maxRecDepth 100000 in
theorem gp_wsX11_then : GoodIn lw_tbl wsX11_then := by unfold wsX11_then; exact (gi_cons dw_1130 (goodIn_app (goodIn_app gp_wsX11_then_o (goodIn_app gp_wsX11_isWave (goodIn_app gp_wsX11_isLong (goodIn_app gp_wsX11_in (goodIn_app gp_wsX11_copies (goodIn_app gp_wsX11_yearsGo (goodIn_app gp_wsX11_mayAt gp_wsX11_thereAt))))))) gp_wsX110))
set_option maxRecDepth 100000 in
theorem gp_wsX10_next_o : GoodIn lw_tbl wsX10_next_o := by unfold wsX10_next_o; exact (gi_cons dw_50 (gi_cons dw_1021 (gi_cons dw_49 (gi_cons dw_498 (gi_cons dw_497 (gi_cons dw_43 (gi_cons dw_496 (gi_cons dw_692 (gi_cons dw_39 (gi_cons dw_691 (gi_cons dw_772 (gi_cons dw_494 (gi_cons dw_771 gi_nil)))))))))))))
set_option maxRecDepth 100000 in
theorem gp_wsX10_next : GoodIn lw_tbl wsX10_next := by unfold wsX10_next; exact (gi_cons dw_1134 (goodIn_app (goodIn_app (goodIn_app (goodIn_app (goodIn_app (goodIn_app gp_wsX10_next_o (goodIn_app gp_wsX5_hasWave (goodIn_app gp_wsX6_copyFrom gp_wsX0_passYears))) gp_wsX100) gp_wsX60) gp_wsX50) gp_wsX00) gp_wsX10))
set_option maxRecDepth 100000 in
theorem gp_wsX11_next_o : GoodIn lw_tbl wsX11_next_o := by unfold wsX11_next_o; exact (gi_cons dw_474 (gi_cons dw_476 (gi_cons dw_567 (gi_cons dw_566 (gi_cons dw_565 (gi_cons dw_16 (gi_cons dw_564 (gi_cons dw_563 (gi_cons dw_562 (gi_cons dw_793 (gi_cons dw_792 (gi_cons dw_791 gi_nil))))))))))))
set_option maxRecDepth 100000 in
theorem gp_wsX11_next : GoodIn lw_tbl wsX11_next := by unfold wsX11_next; exact (gi_cons dw_1138 (goodIn_app (goodIn_app gp_wsX11_next_o (goodIn_app gp_wsX11_isWave (goodIn_app gp_wsX11_copies gp_wsX11_yearGoes))) gp_wsX110))
set_option maxRecDepth 100000 in
theorem gp_wsX10_year_o : GoodIn lw_tbl wsX10_year_o := by unfold wsX10_year_o; exact (gi_cons dw_50 (gi_cons dw_498 (gi_cons dw_49 (gi_cons dw_684 (gi_cons dw_43 (gi_cons dw_683 (gi_cons dw_1144 (gi_cons dw_494 (gi_cons dw_1143 gi_nil)))))))))
set_option maxRecDepth 100000 in
theorem gp_wsX0_guessThere_o : GoodIn lw_tbl wsX0_guessThere_o := by unfold wsX0_guessThere_o; exact (gi_cons dw_501 (gi_cons dw_504 (gi_cons dw_43 (gi_cons dw_503 gi_nil))))
set_option maxRecDepth 100000 in
theorem gp_wsX0_guessThere : GoodIn lw_tbl wsX0_guessThere := by unfold wsX0_guessThere; exact (gi_cons dw_1145 (goodIn_app (goodIn_app (goodIn_app (goodIn_app gp_wsX0_guessThere_o gp_wsX5_thingThere) gp_wsX00) gp_wsX50) gp_wsX60))
set_option maxRecDepth 100000 in
theorem gp_wsX10_year : GoodIn lw_tbl wsX10_year := by unfold wsX10_year; exact (gi_cons dw_1142 (goodIn_app (goodIn_app (goodIn_app (goodIn_app (goodIn_app gp_wsX10_year_o (goodIn_app gp_wsX5_hasGuess gp_wsX0_guessThere)) gp_wsX100) gp_wsX50) gp_wsX00) gp_wsX60))
set_option maxRecDepth 100000 in
theorem gp_wsX11_year_o : GoodIn lw_tbl wsX11_year_o := by unfold wsX11_year_o; exact (gi_cons dw_472 (gi_cons dw_722 (gi_cons dw_721 (gi_cons dw_720 (gi_cons dw_16 (gi_cons dw_570 (gi_cons dw_569 (gi_cons dw_564 (gi_cons dw_563 (gi_cons dw_562 (gi_cons dw_719 (gi_cons dw_718 (gi_cons dw_717 gi_nil)))))))))))))
set_option maxRecDepth 100000 in
theorem gp_wsX11_year : GoodIn lw_tbl wsX11_year := by unfold wsX11_year; exact (gi_cons dw_1149 (goodIn_app (goodIn_app gp_wsX11_year_o (goodIn_app gp_wsX11_isGuess (goodIn_app gp_wsX11_in (goodIn_app gp_wsX11_copies gp_wsX11_thereNumber)))) gp_wsX110))
set_option maxRecDepth 100000 in
theorem gp_wsX10_drawn_o : GoodIn lw_tbl wsX10_drawn_o := by unfold wsX10_drawn_o; exact (gi_cons dw_50 (gi_cons dw_49 (gi_cons dw_497 (gi_cons dw_43 (gi_cons dw_496 (gi_cons dw_504 (gi_cons dw_503 (gi_cons dw_11 (gi_cons dw_1094 (gi_cons dw_527 (gi_cons dw_526 gi_nil)))))))))))
set_option maxRecDepth 100000 in
theorem gp_wsX10_drawn : GoodIn lw_tbl wsX10_drawn := by unfold wsX10_drawn; exact (gi_cons dw_1153 (goodIn_app (goodIn_app (goodIn_app (goodIn_app gp_wsX10_drawn_o (goodIn_app gp_wsX5_hasWave (goodIn_app gp_wsX5_thingThere gp_wsJ6_bitCount_0f7a4))) gp_wsX100) gp_wsX60) gp_wsX50))
set_option maxRecDepth 100000 in
theorem gp_wsX11_drawn_o : GoodIn lw_tbl wsX11_drawn_o := by unfold wsX11_drawn_o; exact (gi_cons dw_472 (gi_cons dw_567 (gi_cons dw_566 (gi_cons dw_565 (gi_cons dw_16 (gi_cons dw_570 (gi_cons dw_569 (gi_cons dw_564 (gi_cons dw_563 (gi_cons dw_562 (gi_cons dw_558 (gi_cons dw_557 (gi_cons dw_556 (gi_cons dw_603 (gi_cons dw_602 gi_nil)))))))))))))))
set_option maxRecDepth 100000 in
theorem gp_wsX11_drawn : GoodIn lw_tbl wsX11_drawn := by unfold wsX11_drawn; exact (gi_cons dw_1157 (goodIn_app (goodIn_app gp_wsX11_drawn_o (goodIn_app gp_wsX11_isWave (goodIn_app gp_wsX11_in (goodIn_app gp_wsX11_copies (goodIn_app gp_wsX11_thereAt gp_wsX11_bits))))) gp_wsX110))
set_option maxRecDepth 100000 in
theorem gp_wsX10_tell_o : GoodIn lw_tbl wsX10_tell_o := by unfold wsX10_tell_o; exact (gi_cons dw_50 (gi_cons dw_47 (gi_cons dw_497 (gi_cons dw_43 (gi_cons dw_496 (gi_cons dw_1164 (gi_cons dw_1163 (gi_cons dw_1162 gi_nil))))))))
set_option maxRecDepth 100000 in
theorem gp_wsX8_add : GoodIn lw_tbl wsX8_add := by unfold wsX8_add; exact (gi_cons dw_1165 (goodIn_app (gi_cons dw_1168 (gi_cons dw_1167 (gi_cons dw_1166 gi_nil))) gp_wsX80))
set_option maxRecDepth 100000 in
theorem gp_wsX10_tell : GoodIn lw_tbl wsX10_tell := by unfold wsX10_tell; exact (gi_cons dw_1161 (goodIn_app (goodIn_app (goodIn_app (goodIn_app gp_wsX10_tell_o (goodIn_app gp_wsX5_hasWave gp_wsX8_add)) gp_wsX100) gp_wsX50) gp_wsX80))
set_option maxRecDepth 100000 in
theorem gp_wsX11_tell_o : GoodIn lw_tbl wsX11_tell_o := by unfold wsX11_tell_o; exact (gi_cons dw_350 (gi_cons dw_1175 (gi_cons dw_1174 (gi_cons dw_1173 (gi_cons dw_567 (gi_cons dw_566 (gi_cons dw_565 (gi_cons dw_16 (gi_cons dw_570 (gi_cons dw_569 gi_nil))))))))))
set_option maxRecDepth 100000 in
theorem gp_wsX11_tell : GoodIn lw_tbl wsX11_tell := by unfold wsX11_tell; exact (gi_cons dw_1172 (goodIn_app (goodIn_app gp_wsX11_tell_o (goodIn_app gp_wsX11_isWave gp_wsX11_in)) gp_wsX110))
set_option maxRecDepth 100000 in
theorem gp_wsX10_forget : GoodIn lw_tbl wsX10_forget := by unfold wsX10_forget; exact (gi_cons dw_1179 (goodIn_app (goodIn_app (gi_cons dw_47 gi_nil) gp_wsX100) gp_wsX80))
set_option maxRecDepth 100000 in
theorem gp_wsX11_forget : GoodIn lw_tbl wsX11_forget := by unfold wsX11_forget; exact (gi_cons dw_1183 (goodIn_app (gi_cons dw_350 gi_nil) gp_wsX110))
set_option maxRecDepth 100000 in
theorem gp_wsX10_fit_o : GoodIn lw_tbl wsX10_fit_o := by unfold wsX10_fit_o; exact (gi_cons dw_47 (gi_cons dw_49 (gi_cons dw_1193 (gi_cons dw_1163 (gi_cons dw_1192 (gi_cons dw_1191 (gi_cons dw_1190 (gi_cons dw_1189 (gi_cons dw_1188 gi_nil)))))))))
set_option maxRecDepth 100000 in
theorem gp_wsX8_areSuch : GoodIn lw_tbl wsX8_areSuch := by unfold wsX8_areSuch; exact (gi_cons dw_1194 (goodIn_app (gi_cons dw_1168 gi_nil) gp_wsX80))
set_option maxRecDepth 100000 in
theorem gp_wsX8_believe_o : GoodIn lw_tbl wsX8_believe_o := by unfold wsX8_believe_o; exact (gi_cons dw_1202 (gi_cons dw_1201 (gi_cons dw_1200 (gi_cons dw_1199 (gi_cons dw_495 (gi_cons dw_494 (gi_cons dw_493 (gi_cons dw_752 (gi_cons dw_11 (gi_cons dw_295 (gi_cons dw_43 (gi_cons dw_294 (gi_cons dw_1198 (gi_cons dw_1197 (gi_cons dw_1196 (gi_cons dw_1163 gi_nil))))))))))))))))
set_option maxRecDepth 100000 in
theorem gp_wsX8_beliedBy_o : GoodIn lw_tbl wsX8_beliedBy_o := by unfold wsX8_beliedBy_o; exact (gi_cons dw_1167 (gi_cons dw_1166 (gi_cons dw_752 (gi_cons dw_11 gi_nil))))
set_option maxRecDepth 100000 in
theorem gp_wsX8_beliedBy : GoodIn lw_tbl wsX8_beliedBy := by unfold wsX8_beliedBy; exact (gi_cons dw_1203 (goodIn_app (goodIn_app gp_wsX8_beliedBy_o gp_wsX10_has) gp_wsX80))
set_option maxRecDepth 100000 in
theorem gp_wsX8_believe : GoodIn lw_tbl wsX8_believe := by unfold wsX8_believe; exact (gi_cons dw_1195 (goodIn_app (goodIn_app (goodIn_app (goodIn_app (goodIn_app gp_wsX8_believe_o (goodIn_app gp_wsX0_mayBe (goodIn_app gp_wsX10_has (goodIn_app gp_wsX5_oddsAt gp_wsX8_beliedBy)))) gp_wsX80) gp_wsX50) gp_wsX60) gp_wsX00))
set_option maxRecDepth 100000 in
theorem gp_wsX8_fitting_o : GoodIn lw_tbl wsX8_fitting_o := by unfold wsX8_fitting_o; exact (gi_cons dw_1210 (gi_cons dw_1209 (gi_cons dw_1208 (gi_cons dw_1163 (gi_cons dw_1207 (gi_cons dw_1206 (gi_cons dw_1205 gi_nil)))))))
set_option maxRecDepth 100000 in
theorem gp_wsX8_sortByLies_o : GoodIn lw_tbl wsX8_sortByLies_o := by unfold wsX8_sortByLies_o; exact (gi_cons dw_1216 (gi_cons dw_1202 (gi_cons dw_1215 (gi_cons dw_314 (gi_cons dw_313 (gi_cons dw_1214 (gi_cons dw_1213 (gi_cons dw_1212 (gi_cons dw_1163 gi_nil)))))))))
set_option maxRecDepth 100000 in
theorem gp_wsX8_withWave : GoodIn lw_tbl wsX8_withWave := by unfold wsX8_withWave; exact (gi_cons dw_1217 (goodIn_app (gi_cons dw_1200 (gi_cons dw_1199 (gi_cons dw_1216 gi_nil))) gp_wsX80))
set_option maxRecDepth 100000 in
theorem gp_wsX8_sortByLies : GoodIn lw_tbl wsX8_sortByLies := by unfold wsX8_sortByLies; exact (gi_cons dw_1211 (goodIn_app (goodIn_app (goodIn_app gp_wsX8_sortByLies_o (goodIn_app gp_wsJ7_fill_53178 gp_wsX8_withWave)) gp_wsX80) gp_wsX50))
set_option maxRecDepth 100000 in
theorem gp_wsX8_upTo : GoodIn lw_tbl wsX8_upTo := by unfold wsX8_upTo; exact (gi_cons dw_1218 (goodIn_app (gi_cons dw_1216 gi_nil) gp_wsX80))
set_option maxRecDepth 100000 in
theorem gp_wsX8_fitting : GoodIn lw_tbl wsX8_fitting := by unfold wsX8_fitting; exact (gi_cons dw_1204 (goodIn_app (goodIn_app (goodIn_app gp_wsX8_fitting_o (goodIn_app gp_wsX8_sortByLies gp_wsX8_upTo)) gp_wsX80) gp_wsX50))
set_option maxRecDepth 100000 in
theorem gp_wsX10_fit : GoodIn lw_tbl wsX10_fit := by unfold wsX10_fit; exact (gi_cons dw_1187 (goodIn_app (goodIn_app (goodIn_app (goodIn_app (goodIn_app (goodIn_app gp_wsX10_fit_o (goodIn_app gp_wsX8_areSuch (goodIn_app gp_wsX8_believe gp_wsX8_fitting))) gp_wsX100) gp_wsX80) gp_wsX50) gp_wsX60) gp_wsX00))
set_option maxRecDepth 100000 in
theorem gp_wsX11_fit_o : GoodIn lw_tbl wsX11_fit_o := by unfold wsX11_fit_o; exact (gi_cons dw_986 (gi_cons dw_1228 (gi_cons dw_1227 (gi_cons dw_1226 (gi_cons dw_16 (gi_cons dw_570 (gi_cons dw_569 (gi_cons dw_984 (gi_cons dw_983 (gi_cons dw_982 (gi_cons dw_730 (gi_cons dw_729 (gi_cons dw_728 (gi_cons dw_1225 (gi_cons dw_1224 (gi_cons dw_1223 gi_nil))))))))))))))))
set_option maxRecDepth 100000 in
theorem gp_wsX11_isAsked_o : GoodIn lw_tbl wsX11_isAsked_o := by unfold wsX11_isAsked_o; exact (gi_cons dw_350 (gi_cons dw_570 (gi_cons dw_569 (gi_cons dw_16 gi_nil))))
set_option maxRecDepth 100000 in
theorem gp_wsX11_isAsked : GoodIn lw_tbl wsX11_isAsked := by unfold wsX11_isAsked; exact (gi_cons dw_1229 (goodIn_app (goodIn_app gp_wsX11_isAsked_o gp_wsX11_in) gp_wsX110))
set_option maxRecDepth 100000 in
theorem gp_wsX11_doesFit_o : GoodIn lw_tbl wsX11_doesFit_o := by unfold wsX11_doesFit_o; exact (gi_cons dw_986 (gi_cons dw_1233 (gi_cons dw_1232 (gi_cons dw_1231 (gi_cons dw_16 gi_nil)))))
set_option maxRecDepth 100000 in
theorem gp_wsX11_isSo_o : GoodIn lw_tbl wsX11_isSo_o := by unfold wsX11_isSo_o; exact (gi_cons dw_1174 (gi_cons dw_1175 (gi_cons dw_1173 (gi_cons dw_736 (gi_cons dw_735 (gi_cons dw_734 (gi_cons dw_16 gi_nil)))))))
set_option maxRecDepth 100000 in
theorem gp_wsX11_isSo : GoodIn lw_tbl wsX11_isSo := by unfold wsX11_isSo; exact (gi_cons dw_1234 (goodIn_app (goodIn_app gp_wsX11_isSo_o gp_wsX11_thingAt) gp_wsX110))
set_option maxRecDepth 100000 in
theorem gp_wsX11_doesFit : GoodIn lw_tbl wsX11_doesFit := by unfold wsX11_doesFit; exact (gi_cons dw_1230 (goodIn_app (goodIn_app gp_wsX11_doesFit_o gp_wsX11_isSo) gp_wsX110))
set_option maxRecDepth 100000 in
theorem gp_wsX11_fit : GoodIn lw_tbl wsX11_fit := by unfold wsX11_fit; exact (gi_cons dw_1222 (goodIn_app (goodIn_app gp_wsX11_fit_o (goodIn_app gp_wsX11_isAsked (goodIn_app gp_wsX11_in (goodIn_app gp_wsX11_fillsChances (goodIn_app gp_wsX11_guesses gp_wsX11_doesFit))))) gp_wsX110))
set_option maxRecDepth 100000 in
theorem gp_wsX10_lie_o : GoodIn lw_tbl wsX10_lie_o := by unfold wsX10_lie_o; exact (gi_cons dw_47 (gi_cons dw_49 (gi_cons dw_1193 (gi_cons dw_1163 (gi_cons dw_1192 (gi_cons dw_1191 (gi_cons dw_1190 (gi_cons dw_1240 (gi_cons dw_1239 gi_nil)))))))))
set_option maxRecDepth 100000 in
theorem gp_wsX8_liars_o : GoodIn lw_tbl wsX8_liars_o := by unfold wsX8_liars_o; exact (gi_cons dw_1202 (gi_cons dw_1167 (gi_cons dw_1166 (gi_cons dw_1210 (gi_cons dw_1209 (gi_cons dw_1208 (gi_cons dw_1163 (gi_cons dw_1244 (gi_cons dw_1243 (gi_cons dw_1242 gi_nil))))))))))
set_option maxRecDepth 100000 in
theorem gp_wsX8_fittingWith_o : GoodIn lw_tbl wsX8_fittingWith_o := by unfold wsX8_fittingWith_o; exact (gi_cons dw_1200 (gi_cons dw_1199 (gi_cons dw_1207 (gi_cons dw_1206 (gi_cons dw_1205 (gi_cons dw_1163 gi_nil))))))
set_option maxRecDepth 100000 in
theorem gp_wsX8_fittingWith : GoodIn lw_tbl wsX8_fittingWith := by unfold wsX8_fittingWith; exact (gi_cons dw_1245 (goodIn_app (goodIn_app gp_wsX8_fittingWith_o gp_wsX8_upTo) gp_wsX80))
set_option maxRecDepth 100000 in
theorem gp_wsX8_liars : GoodIn lw_tbl wsX8_liars := by unfold wsX8_liars; exact (gi_cons dw_1241 (goodIn_app (goodIn_app (goodIn_app gp_wsX8_liars_o (goodIn_app gp_wsX8_sortByLies gp_wsX8_fittingWith)) gp_wsX80) gp_wsX50))
set_option maxRecDepth 100000 in
theorem gp_wsX10_lie : GoodIn lw_tbl wsX10_lie := by unfold wsX10_lie; exact (gi_cons dw_1238 (goodIn_app (goodIn_app (goodIn_app (goodIn_app (goodIn_app (goodIn_app gp_wsX10_lie_o (goodIn_app gp_wsX8_areSuch (goodIn_app gp_wsX8_believe gp_wsX8_liars))) gp_wsX100) gp_wsX80) gp_wsX50) gp_wsX60) gp_wsX00))
set_option maxRecDepth 100000 in
theorem gp_wsX11_lie_o : GoodIn lw_tbl wsX11_lie_o := by unfold wsX11_lie_o; exact (gi_cons dw_1228 (gi_cons dw_1227 (gi_cons dw_1226 (gi_cons dw_16 (gi_cons dw_984 (gi_cons dw_983 (gi_cons dw_982 (gi_cons dw_730 (gi_cons dw_729 (gi_cons dw_728 (gi_cons dw_1225 (gi_cons dw_1224 (gi_cons dw_1223 (gi_cons dw_1233 (gi_cons dw_1232 (gi_cons dw_1231 gi_nil))))))))))))))))
set_option maxRecDepth 100000 in
theorem gp_wsX11_lie : GoodIn lw_tbl wsX11_lie := by unfold wsX11_lie; exact (gi_cons dw_1249 (goodIn_app (goodIn_app gp_wsX11_lie_o (goodIn_app gp_wsX11_isAsked (goodIn_app gp_wsX11_fillsChances (goodIn_app gp_wsX11_guesses (goodIn_app gp_wsX11_doesFit gp_wsX11_isSo))))) gp_wsX110))
set_option maxRecDepth 100000 in
theorem gp_wsX10_ask_o : GoodIn lw_tbl wsX10_ask_o := by unfold wsX10_ask_o; exact (gi_cons dw_47 (gi_cons dw_49 (gi_cons dw_1193 (gi_cons dw_1163 (gi_cons dw_1192 (gi_cons dw_1191 (gi_cons dw_1190 (gi_cons dw_1255 (gi_cons dw_1254 gi_nil)))))))))
set_option maxRecDepth 100000 in
theorem gp_wsX8_waveToAsk_o : GoodIn lw_tbl wsX8_waveToAsk_o := by unfold wsX8_waveToAsk_o; exact (gi_cons dw_1202 (gi_cons dw_1257 (gi_cons dw_192 (gi_cons dw_133 (gi_cons dw_191 (gi_cons dw_1210 (gi_cons dw_1209 (gi_cons dw_1208 (gi_cons dw_1163 (gi_cons dw_1244 (gi_cons dw_1243 (gi_cons dw_1242 gi_nil))))))))))))
set_option maxRecDepth 100000 in
theorem gp_wsX8_waveToAsk : GoodIn lw_tbl wsX8_waveToAsk := by unfold wsX8_waveToAsk; exact (gi_cons dw_1256 (goodIn_app (goodIn_app (goodIn_app gp_wsX8_waveToAsk_o (goodIn_app gp_wsX8_sortByLies gp_wsX8_fittingWith)) gp_wsX80) gp_wsX50))
set_option maxRecDepth 100000 in
theorem gp_wsX10_ask : GoodIn lw_tbl wsX10_ask := by unfold wsX10_ask; exact (gi_cons dw_1253 (goodIn_app (goodIn_app (goodIn_app (goodIn_app (goodIn_app (goodIn_app gp_wsX10_ask_o (goodIn_app gp_wsX8_areSuch (goodIn_app gp_wsX8_believe gp_wsX8_waveToAsk))) gp_wsX100) gp_wsX80) gp_wsX50) gp_wsX60) gp_wsX00))
set_option maxRecDepth 100000 in
theorem gp_wsX11_ask_o : GoodIn lw_tbl wsX11_ask_o := by unfold wsX11_ask_o; exact (gi_cons dw_1265 (gi_cons dw_399 (gi_cons dw_358 (gi_cons dw_1228 (gi_cons dw_1227 (gi_cons dw_1226 (gi_cons dw_16 (gi_cons dw_984 (gi_cons dw_983 (gi_cons dw_982 (gi_cons dw_730 (gi_cons dw_729 (gi_cons dw_728 (gi_cons dw_736 (gi_cons dw_735 (gi_cons dw_734 (gi_cons dw_1225 (gi_cons dw_1224 (gi_cons dw_1223 (gi_cons dw_1264 (gi_cons dw_1263 (gi_cons dw_1262 gi_nil))))))))))))))))))))))
set_option maxRecDepth 100000 in
theorem gp_wsX11_worstAt : GoodIn lw_tbl wsX11_worstAt := by unfold wsX11_worstAt; exact (gi_cons dw_1266 (goodIn_app (gi_cons dw_1265 gi_nil) gp_wsX110))
set_option maxRecDepth 100000 in
theorem gp_wsX11_ask : GoodIn lw_tbl wsX11_ask := by unfold wsX11_ask; exact (gi_cons dw_1261 (goodIn_app (goodIn_app gp_wsX11_ask_o (goodIn_app gp_wsX11_isAsked (goodIn_app gp_wsX11_fillsChances (goodIn_app gp_wsX11_guesses (goodIn_app gp_wsX11_doesFit (goodIn_app gp_wsX11_thingAt gp_wsX11_worstAt)))))) gp_wsX110))
set_option maxRecDepth 100000 in
theorem gp_wsX10_hold_o : GoodIn lw_tbl wsX10_hold_o := by unfold wsX10_hold_o; exact (gi_cons dw_48 (gi_cons dw_49 (gi_cons dw_1272 (gi_cons dw_36 (gi_cons dw_1271 gi_nil)))))
set_option maxRecDepth 100000 in
theorem gp_wsX3_keepIn_o : GoodIn lw_tbl wsX3_keepIn_o := by unfold wsX3_keepIn_o; exact (gi_cons dw_1274 (gi_cons dw_325 (gi_cons dw_692 (gi_cons dw_39 (gi_cons dw_691 gi_nil)))))
set_option maxRecDepth 100000 in
theorem gp_wsX3_keepIn : GoodIn lw_tbl wsX3_keepIn := by unfold wsX3_keepIn; exact (gi_cons dw_1273 (goodIn_app (goodIn_app (goodIn_app gp_wsX3_keepIn_o gp_wsX6_copyFrom) gp_wsX30) gp_wsX60))
set_option maxRecDepth 100000 in
theorem gp_wsX10_hold : GoodIn lw_tbl wsX10_hold := by unfold wsX10_hold; exact (gi_cons dw_1270 (goodIn_app (goodIn_app (goodIn_app (goodIn_app gp_wsX10_hold_o gp_wsX3_keepIn) gp_wsX100) gp_wsX30) gp_wsX60))
set_option maxRecDepth 100000 in
theorem gp_wsX11_hold_o : GoodIn lw_tbl wsX11_hold_o := by unfold wsX11_hold_o; exact (gi_cons dw_349 (gi_cons dw_1279 (gi_cons dw_476 (gi_cons dw_570 (gi_cons dw_569 (gi_cons dw_16 gi_nil))))))
set_option maxRecDepth 100000 in
theorem gp_wsX11_hold : GoodIn lw_tbl wsX11_hold := by unfold wsX11_hold; exact (gi_cons dw_1278 (goodIn_app (goodIn_app gp_wsX11_hold_o gp_wsX11_in) gp_wsX110))
set_option maxRecDepth 100000 in
theorem gp_wsX10_restore_o : GoodIn lw_tbl wsX10_restore_o := by unfold wsX10_restore_o; exact (gi_cons dw_48 (gi_cons dw_49 (gi_cons dw_1285 (gi_cons dw_36 (gi_cons dw_1284 gi_nil)))))
set_option maxRecDepth 100000 in
theorem gp_wsX3_goOnFrom_o : GoodIn lw_tbl wsX3_goOnFrom_o := by unfold wsX3_goOnFrom_o; exact (gi_cons dw_325 (gi_cons dw_1274 (gi_cons dw_326 (gi_cons dw_692 (gi_cons dw_39 (gi_cons dw_691 gi_nil))))))
set_option maxRecDepth 100000 in
theorem gp_wsX3_goOnFrom : GoodIn lw_tbl wsX3_goOnFrom := by unfold wsX3_goOnFrom; exact (gi_cons dw_1286 (goodIn_app (goodIn_app (goodIn_app gp_wsX3_goOnFrom_o gp_wsX6_copyFrom) gp_wsX30) gp_wsX60))
set_option maxRecDepth 100000 in
theorem gp_wsX10_restore : GoodIn lw_tbl wsX10_restore := by unfold wsX10_restore; exact (gi_cons dw_1283 (goodIn_app (goodIn_app (goodIn_app (goodIn_app gp_wsX10_restore_o gp_wsX3_goOnFrom) gp_wsX100) gp_wsX30) gp_wsX60))
set_option maxRecDepth 100000 in
theorem gp_wsX11_restore_o : GoodIn lw_tbl wsX11_restore_o := by unfold wsX11_restore_o; exact (gi_cons dw_349 (gi_cons dw_476 (gi_cons dw_1279 (gi_cons dw_351 (gi_cons dw_570 (gi_cons dw_569 (gi_cons dw_16 gi_nil)))))))
set_option maxRecDepth 100000 in
theorem gp_wsX11_restore : GoodIn lw_tbl wsX11_restore := by unfold wsX11_restore; exact (gi_cons dw_1290 (goodIn_app (goodIn_app gp_wsX11_restore_o gp_wsX11_in) gp_wsX110))
set_option maxRecDepth 100000 in
theorem gp_wsX10_count_o : GoodIn lw_tbl wsX10_count_o := by unfold wsX10_count_o; exact (gi_cons dw_50 (gi_cons dw_49 (gi_cons dw_6 (gi_cons dw_48 (gi_cons dw_47 (gi_cons dw_498 (gi_cons dw_1097 (gi_cons dw_1096 (gi_cons dw_1095 (gi_cons dw_11 (gi_cons dw_1310 (gi_cons dw_1309 (gi_cons dw_1308 (gi_cons dw_36 (gi_cons dw_1307 (gi_cons dw_1306 (gi_cons dw_1305 (gi_cons dw_1304 (gi_cons dw_526 (gi_cons dw_1303 (gi_cons dw_1302 (gi_cons dw_1301 (gi_cons dw_1144 (gi_cons dw_494 (gi_cons dw_1143 (gi_cons dw_43 (gi_cons dw_1300 (gi_cons dw_1299 (gi_cons dw_1298 (gi_cons dw_1297 (gi_cons dw_1296 (gi_cons dw_1295 (gi_cons dw_313 (gi_cons dw_75 (gi_cons dw_133 gi_nil)))))))))))))))))))))))))))))))))))
set_option maxRecDepth 100000 in
theorem gp_wsX10_sumOf : GoodIn lw_tbl wsX10_sumOf := by unfold wsX10_sumOf; exact (gi_cons dw_1311 gi_nil)
set_option maxRecDepth 100000 in
theorem gp_wsX3_slotsHeld : GoodIn lw_tbl wsX3_slotsHeld := by unfold wsX3_slotsHeld; exact (gi_cons dw_1312 (goodIn_app (gi_cons dw_325 gi_nil) gp_wsX30))
set_option maxRecDepth 100000 in
theorem gp_wsX10_buoysLying_o : GoodIn lw_tbl wsX10_buoysLying_o := by unfold wsX10_buoysLying_o; exact (gi_cons dw_50 (gi_cons dw_49 (gi_cons dw_1094 (gi_cons dw_527 (gi_cons dw_526 gi_nil)))))
set_option maxRecDepth 100000 in
theorem gp_wsX10_buoysLying : GoodIn lw_tbl wsX10_buoysLying := by unfold wsX10_buoysLying; exact (gi_cons dw_1313 (goodIn_app (goodIn_app (goodIn_app (goodIn_app gp_wsX10_buoysLying_o gp_wsJ6_bitCount_0f7a4) gp_wsX100) gp_wsX50) gp_wsX60))
set_option maxRecDepth 100000 in
theorem gp_wsX10_wavesFound : GoodIn lw_tbl wsX10_wavesFound := by unfold wsX10_wavesFound; exact (gi_cons dw_1314 (goodIn_app (goodIn_app (goodIn_app (gi_cons dw_50 (gi_cons dw_49 gi_nil)) gp_wsX100) gp_wsX50) gp_wsX60))
set_option maxRecDepth 100000 in
theorem gp_wsX10_wavesWithNothing_o : GoodIn lw_tbl wsX10_wavesWithNothing_o := by unfold wsX10_wavesWithNothing_o; exact (gi_cons dw_50 (gi_cons dw_498 (gi_cons dw_49 (gi_cons dw_495 (gi_cons dw_494 (gi_cons dw_493 gi_nil))))))
set_option maxRecDepth 100000 in
theorem gp_wsX10_wavesWithNothing : GoodIn lw_tbl wsX10_wavesWithNothing := by unfold wsX10_wavesWithNothing; exact (gi_cons dw_1315 (goodIn_app (goodIn_app (goodIn_app (goodIn_app (goodIn_app gp_wsX10_wavesWithNothing_o gp_wsX0_mayBe) gp_wsX100) gp_wsX50) gp_wsX60) gp_wsX00))
set_option maxRecDepth 100000 in
theorem gp_wsX10_faresOfAllHere_o : GoodIn lw_tbl wsX10_faresOfAllHere_o := by unfold wsX10_faresOfAllHere_o; exact (gi_cons dw_50 (gi_cons dw_49 (gi_cons dw_498 (gi_cons dw_634 (gi_cons dw_494 (gi_cons dw_633 gi_nil))))))
set_option maxRecDepth 100000 in
theorem gp_wsX10_faresOfAllHere : GoodIn lw_tbl wsX10_faresOfAllHere := by unfold wsX10_faresOfAllHere; exact (gi_cons dw_1316 (goodIn_app (goodIn_app (goodIn_app (goodIn_app (goodIn_app (goodIn_app gp_wsX10_faresOfAllHere_o gp_wsX0_fareOf) gp_wsX100) gp_wsX50) gp_wsX60) gp_wsX00) gp_wsX10))
set_option maxRecDepth 100000 in
theorem gp_wsX10_count : GoodIn lw_tbl wsX10_count := by unfold wsX10_count; exact (gi_cons dw_1294 (goodIn_app (goodIn_app (goodIn_app (goodIn_app (goodIn_app (goodIn_app (goodIn_app (goodIn_app (goodIn_app gp_wsX10_count_o (goodIn_app gp_wsX10_partiesThatAre (goodIn_app gp_wsX10_sumOf (goodIn_app gp_wsX3_slotsHeld (goodIn_app gp_wsX10_buoysLying (goodIn_app gp_wsX10_wavesFound (goodIn_app gp_wsX0_guessThere (goodIn_app gp_wsX10_wavesWithNothing gp_wsX10_faresOfAllHere)))))))) gp_wsX100) gp_wsX50) gp_wsX60) gp_wsX70) gp_wsX30) gp_wsX80) gp_wsX00) gp_wsX10))
set_option maxRecDepth 100000 in
theorem gp_wsX11_count_o : GoodIn lw_tbl wsX11_count_o := by unfold wsX11_count_o; exact (gi_cons dw_399 (gi_cons dw_358 (gi_cons dw_398 (gi_cons dw_474 (gi_cons dw_20 (gi_cons dw_351 (gi_cons dw_350 (gi_cons dw_349 (gi_cons dw_564 (gi_cons dw_563 (gi_cons dw_562 (gi_cons dw_16 (gi_cons dw_1326 (gi_cons dw_1325 (gi_cons dw_1324 (gi_cons dw_1323 (gi_cons dw_1322 (gi_cons dw_1321 (gi_cons dw_603 (gi_cons dw_602 (gi_cons dw_730 (gi_cons dw_729 (gi_cons dw_728 (gi_cons dw_719 (gi_cons dw_718 (gi_cons dw_717 (gi_cons dw_561 (gi_cons dw_560 (gi_cons dw_559 (gi_cons dw_725 (gi_cons dw_724 (gi_cons dw_723 (gi_cons dw_653 (gi_cons dw_652 (gi_cons dw_651 gi_nil)))))))))))))))))))))))))))))))))))
set_option maxRecDepth 100000 in
theorem gp_wsX11_partiesIn : GoodIn lw_tbl wsX11_partiesIn := by unfold wsX11_partiesIn; exact (gi_cons dw_1327 (goodIn_app (gi_cons dw_398 (gi_cons dw_358 (gi_cons dw_474 gi_nil))) gp_wsX110))
set_option maxRecDepth 100000 in
theorem gp_wsX11_sumNow : GoodIn lw_tbl wsX11_sumNow := by unfold wsX11_sumNow; exact (gi_cons dw_1328 (goodIn_app (gi_cons dw_476 gi_nil) gp_wsX110))
set_option maxRecDepth 100000 in
theorem gp_wsX11_count : GoodIn lw_tbl wsX11_count := by unfold wsX11_count; exact (gi_cons dw_1320 (goodIn_app (goodIn_app gp_wsX11_count_o (goodIn_app gp_wsX11_copies (goodIn_app gp_wsX11_partiesIn (goodIn_app gp_wsX11_sumNow (goodIn_app gp_wsX11_bits (goodIn_app gp_wsX11_guesses (goodIn_app gp_wsX11_thereNumber (goodIn_app gp_wsX11_mayAt (goodIn_app gp_wsX11_isHere gp_wsX11_faresOf))))))))) gp_wsX110))
set_option maxRecDepth 100000 in
theorem gp_wsX10_init_o : GoodIn lw_tbl wsX10_init_o := by unfold wsX10_init_o; exact (gi_cons dw_1353 (gi_cons dw_1352 (gi_cons dw_1351 (gi_cons dw_4 (gi_cons dw_6 (gi_cons dw_1350 (gi_cons dw_50 (gi_cons dw_1349 (gi_cons dw_1348 (gi_cons dw_45 (gi_cons dw_51 (gi_cons dw_1347 (gi_cons dw_49 (gi_cons dw_1021 (gi_cons dw_1346 (gi_cons dw_1345 (gi_cons dw_36 (gi_cons dw_48 (gi_cons dw_1344 (gi_cons dw_1343 (gi_cons dw_494 (gi_cons dw_498 (gi_cons dw_1342 (gi_cons dw_1341 (gi_cons dw_813 (gi_cons dw_815 (gi_cons dw_1340 (gi_cons dw_1339 (gi_cons dw_1163 (gi_cons dw_47 (gi_cons dw_1338 (gi_cons dw_1337 (gi_cons dw_1336 (gi_cons dw_1335 (gi_cons dw_1334 (gi_cons dw_1333 (gi_cons dw_40 (gi_cons dw_38 gi_nil))))))))))))))))))))))))))))))))))))))
set_option maxRecDepth 100000 in
theorem gp_wsX7_init : GoodIn lw_tbl wsX7_init := by unfold wsX7_init; exact (gi_cons dw_1354 (goodIn_app (gi_cons dw_1358 (gi_cons dw_1357 (gi_cons dw_1356 (gi_cons dw_1355 (gi_cons dw_9 gi_nil))))) gp_wsX70))
set_option maxRecDepth 100000 in
theorem gp_wsX5_init_o : GoodIn lw_tbl wsX5_init_o := by unfold wsX5_init_o; exact (gi_cons dw_1364 (gi_cons dw_300 (gi_cons dw_298 (gi_cons dw_297 (gi_cons dw_305 (gi_cons dw_304 (gi_cons dw_1363 (gi_cons dw_1362 (gi_cons dw_1361 (gi_cons dw_1360 (gi_cons dw_65 (gi_cons dw_64 (gi_cons dw_43 gi_nil)))))))))))))
set_option maxRecDepth 100000 in
theorem gp_wsX1_init : GoodIn lw_tbl wsX1_init := by unfold wsX1_init; exact (gi_cons dw_1365 (goodIn_app (gi_cons dw_1367 (gi_cons dw_1357 (gi_cons dw_1356 (gi_cons dw_1366 (gi_cons dw_105 (gi_cons dw_107 (gi_cons dw_98 (gi_cons dw_97 (gi_cons dw_543 (gi_cons dw_544 gi_nil)))))))))) gp_wsX10))
set_option maxRecDepth 100000 in
theorem gp_wsX5_init : GoodIn lw_tbl wsX5_init := by unfold wsX5_init; exact (gi_cons dw_1359 (goodIn_app (goodIn_app (goodIn_app gp_wsX5_init_o (goodIn_app gp_wsX1_init gp_wsX5_clear)) gp_wsX50) gp_wsX10))
set_option maxRecDepth 100000 in
theorem gp_wsX4_init_o : GoodIn lw_tbl wsX4_init_o := by unfold wsX4_init_o; exact (gi_cons dw_1375 (gi_cons dw_1374 (gi_cons dw_1373 (gi_cons dw_72 (gi_cons dw_271 (gi_cons dw_69 (gi_cons dw_1372 (gi_cons dw_1371 (gi_cons dw_66 (gi_cons dw_1370 (gi_cons dw_1369 gi_nil)))))))))))
set_option maxRecDepth 100000 in
theorem gp_wsX9_init_o : GoodIn lw_tbl wsX9_init_o := by unfold wsX9_init_o; exact (gi_cons dw_1382 (gi_cons dw_1357 (gi_cons dw_1356 (gi_cons dw_1381 (gi_cons dw_153 (gi_cons dw_1366 (gi_cons dw_118 (gi_cons dw_119 (gi_cons dw_117 (gi_cons dw_126 (gi_cons dw_1380 (gi_cons dw_169 (gi_cons dw_168 (gi_cons dw_135 (gi_cons dw_1379 (gi_cons dw_1378 (gi_cons dw_1377 (gi_cons dw_134 (gi_cons dw_131 (gi_cons dw_132 (gi_cons dw_148 (gi_cons dw_147 (gi_cons dw_62 (gi_cons dw_152 (gi_cons dw_151 gi_nil)))))))))))))))))))))))))
set_option maxRecDepth 100000 in
theorem gp_wsJ0_charAt_5068e_o : GoodIn lw_tbl wsJ0_charAt_5068e_o := by unfold wsJ0_charAt_5068e_o; exact (gi_cons dw_174 (gi_cons dw_173 (gi_cons dw_172 (gi_cons dw_171 (gi_cons dw_135 (gi_cons dw_1387 (gi_cons dw_1386 (gi_cons dw_134 (gi_cons dw_131 (gi_cons dw_1385 (gi_cons dw_1384 (gi_cons dw_132 gi_nil))))))))))))
set_option maxRecDepth 100000 in
theorem gp_wsJ1_charAt_3b067_o : GoodIn lw_tbl wsJ1_charAt_3b067_o := by unfold wsJ1_charAt_3b067_o; exact (gi_cons dw_1390 (gi_cons dw_1389 (gi_cons dw_135 (gi_cons dw_131 gi_nil))))
set_option maxRecDepth 100000 in
theorem gp_wsJ0_checkIndex_df160_o : GoodIn lw_tbl wsJ0_checkIndex_df160_o := by unfold wsJ0_checkIndex_df160_o; exact (gi_cons dw_218 (gi_cons dw_1393 (gi_cons dw_1392 (gi_cons dw_131 gi_nil))))
set_option maxRecDepth 100000 in
theorem gp_wsJ3_checkIndex_8e157 : GoodIn lw_tbl wsJ3_checkIndex_8e157 := by unfold wsJ3_checkIndex_8e157; exact (gi_cons dw_1394 gi_nil)
set_option maxRecDepth 100000 in
theorem gp_wsJ0_checkIndex_df160 : GoodIn lw_tbl wsJ0_checkIndex_df160 := by unfold wsJ0_checkIndex_df160; exact (gi_cons dw_1391 (goodIn_app gp_wsJ0_checkIndex_df160_o gp_wsJ3_checkIndex_8e157))
set_option maxRecDepth 100000 in
theorem gp_wsJ1_charAt_3b067 : GoodIn lw_tbl wsJ1_charAt_3b067 := by unfold wsJ1_charAt_3b067; exact (gi_cons dw_1388 (goodIn_app gp_wsJ1_charAt_3b067_o gp_wsJ0_checkIndex_df160))
set_option maxRecDepth 100000 in
theorem gp_wsJ2_charAt_3b067_o : GoodIn lw_tbl wsJ2_charAt_3b067_o := by unfold wsJ2_charAt_3b067_o; exact (gi_cons dw_1397 (gi_cons dw_1396 (gi_cons dw_132 (gi_cons dw_135 (gi_cons dw_131 (gi_cons dw_222 (gi_cons dw_221 gi_nil)))))))
set_option maxRecDepth 100000 in
theorem gp_wsJ2_checkIndex_2214a_o : GoodIn lw_tbl wsJ2_checkIndex_2214a_o := by unfold wsJ2_checkIndex_2214a_o; exact (gi_cons dw_213 (gi_cons dw_212 (gi_cons dw_132 (gi_cons dw_1399 (gi_cons dw_1389 (gi_cons dw_135 (gi_cons dw_131 gi_nil)))))))
set_option maxRecDepth 100000 in
theorem gp_wsJ2_checkIndex_2214a : GoodIn lw_tbl wsJ2_checkIndex_2214a := by unfold wsJ2_checkIndex_2214a; exact (gi_cons dw_1398 (goodIn_app gp_wsJ2_checkIndex_2214a_o (goodIn_app gp_wsJ2_length_9d52b gp_wsJ0_checkIndex_df160)))
set_option maxRecDepth 100000 in
theorem gp_wsJ2_charAt_3b067 : GoodIn lw_tbl wsJ2_charAt_3b067 := by unfold wsJ2_charAt_3b067; exact (gi_cons dw_1395 (goodIn_app gp_wsJ2_charAt_3b067_o (goodIn_app gp_wsJ2_checkIndex_2214a gp_wsJ2_getChar_3b067)))
set_option maxRecDepth 100000 in
theorem gp_wsJ0_charAt_5068e : GoodIn lw_tbl wsJ0_charAt_5068e := by unfold wsJ0_charAt_5068e; exact (gi_cons dw_1383 (goodIn_app gp_wsJ0_charAt_5068e_o (goodIn_app gp_wsJ0_isLatin1_aae02 (goodIn_app gp_wsJ1_charAt_3b067 gp_wsJ2_charAt_3b067))))
set_option maxRecDepth 100000 in
theorem gp_wsX9_init : GoodIn lw_tbl wsX9_init := by unfold wsX9_init; exact (gi_cons dw_1376 (goodIn_app (goodIn_app gp_wsX9_init_o (goodIn_app gp_wsJ0_length_8abf5 (goodIn_app gp_wsJ0_charAt_5068e (goodIn_app gp_wsX9_isLetter gp_wsX9_withLetter)))) gp_wsX90))
set_option maxRecDepth 100000 in
theorem gp_wsX4_init : GoodIn lw_tbl wsX4_init := by unfold wsX4_init; exact (gi_cons dw_1368 (goodIn_app (goodIn_app (goodIn_app (goodIn_app (goodIn_app gp_wsX4_init_o (goodIn_app gp_wsX5_init gp_wsX9_init)) gp_wsX50) gp_wsX40) gp_wsX90) gp_wsX10))
set_option maxRecDepth 100000 in
theorem gp_wsX6_init : GoodIn lw_tbl wsX6_init := by unfold wsX6_init; exact (gi_cons dw_1400 (goodIn_app (gi_cons dw_1401 (gi_cons dw_1357 (gi_cons dw_1356 (gi_cons dw_1366 (gi_cons dw_322 (gi_cons dw_321 (gi_cons dw_320 (gi_cons dw_319 (gi_cons dw_318 gi_nil))))))))) gp_wsX60))
set_option maxRecDepth 100000 in
theorem gp_wsX3_init_o : GoodIn lw_tbl wsX3_init_o := by unfold wsX3_init_o; exact (gi_cons dw_1407 (gi_cons dw_1406 (gi_cons dw_694 (gi_cons dw_1274 (gi_cons dw_1405 (gi_cons dw_325 (gi_cons dw_1404 (gi_cons dw_39 (gi_cons dw_1403 gi_nil)))))))))
set_option maxRecDepth 100000 in
theorem gp_wsX3_init : GoodIn lw_tbl wsX3_init := by unfold wsX3_init; exact (gi_cons dw_1402 (goodIn_app (goodIn_app (goodIn_app gp_wsX3_init_o gp_wsX6_init) gp_wsX30) gp_wsX60))
set_option maxRecDepth 100000 in
theorem gp_wsX0_init : GoodIn lw_tbl wsX0_init := by unfold wsX0_init; exact (gi_cons dw_1408 (goodIn_app (goodIn_app (goodIn_app (gi_cons dw_1409 (gi_cons dw_1357 (gi_cons dw_1356 (gi_cons dw_501 (gi_cons dw_524 gi_nil))))) gp_wsX00) gp_wsX50) gp_wsX10))
set_option maxRecDepth 100000 in
theorem gp_wsX2_init : GoodIn lw_tbl wsX2_init := by unfold wsX2_init; exact (gi_cons dw_1410 (goodIn_app (gi_cons dw_1411 (gi_cons dw_1357 (gi_cons dw_1356 (gi_cons dw_1366 (gi_cons dw_963 (gi_cons dw_964 (gi_cons dw_1000 (gi_cons dw_1001 (gi_cons dw_820 (gi_cons dw_823 gi_nil)))))))))) gp_wsX20))
set_option maxRecDepth 100000 in
theorem gp_wsX8_init : GoodIn lw_tbl wsX8_init := by unfold wsX8_init; exact (gi_cons dw_1412 (goodIn_app (gi_cons dw_1413 (gi_cons dw_1357 (gi_cons dw_1356 (gi_cons dw_1366 (gi_cons dw_1167 (gi_cons dw_1166 (gi_cons dw_1200 (gi_cons dw_1199 (gi_cons dw_1216 (gi_cons dw_1202 (gi_cons dw_1201 gi_nil))))))))))) gp_wsX80))
set_option maxRecDepth 100000 in
theorem gp_wsX10_init : GoodIn lw_tbl wsX10_init := by unfold wsX10_init; exact (gi_cons dw_1332 (goodIn_app (goodIn_app (goodIn_app (goodIn_app (goodIn_app (goodIn_app (goodIn_app (goodIn_app (goodIn_app (goodIn_app (goodIn_app (goodIn_app gp_wsX10_init_o (goodIn_app gp_wsX7_init (goodIn_app gp_wsX5_init (goodIn_app gp_wsX4_init (goodIn_app gp_wsX6_init (goodIn_app gp_wsX3_init (goodIn_app gp_wsX0_init (goodIn_app gp_wsX2_init (goodIn_app gp_wsX8_init gp_wsX6_startOver))))))))) gp_wsX70) gp_wsX100) gp_wsX50) gp_wsX40) gp_wsX60) gp_wsX30) gp_wsX00) gp_wsX20) gp_wsX80) gp_wsX10) gp_wsX90))
set_option maxRecDepth 100000 in
theorem gp_wsX11_init_o : GoodIn lw_tbl wsX11_init_o := by unfold wsX11_init_o; exact (gi_cons dw_1417 (gi_cons dw_1357 (gi_cons dw_1356 (gi_cons dw_1355 (gi_cons dw_22 (gi_cons dw_363 (gi_cons dw_1366 (gi_cons dw_388 (gi_cons dw_387 (gi_cons dw_386 (gi_cons dw_1381 (gi_cons dw_385 (gi_cons dw_381 (gi_cons dw_352 (gi_cons dw_433 (gi_cons dw_440 (gi_cons dw_439 (gi_cons dw_438 (gi_cons dw_1405 (gi_cons dw_450 (gi_cons dw_449 (gi_cons dw_448 (gi_cons dw_470 (gi_cons dw_469 (gi_cons dw_466 (gi_cons dw_465 (gi_cons dw_458 (gi_cons dw_600 (gi_cons dw_611 (gi_cons dw_796 (gi_cons dw_747 (gi_cons dw_986 (gi_cons dw_1175 (gi_cons dw_1174 (gi_cons dw_1173 (gi_cons dw_1265 (gi_cons dw_349 (gi_cons dw_1279 (gi_cons dw_345 (gi_cons dw_344 (gi_cons dw_343 (gi_cons dw_16 (gi_cons dw_1416 (gi_cons dw_1415 (gi_cons dw_336 (gi_cons dw_335 (gi_cons dw_334 (gi_cons dw_333 (gi_cons dw_332 (gi_cons dw_331 gi_nil))))))))))))))))))))))))))))))))))))))))))))))))))
set_option maxRecDepth 100000 in
theorem gp_wsX11_word_o : GoodIn lw_tbl wsX11_word_o := by unfold wsX11_word_o; exact (gi_cons dw_372 (gi_cons dw_371 (gi_cons dw_16 gi_nil)))
set_option maxRecDepth 100000 in
theorem gp_wsX11_word : GoodIn lw_tbl wsX11_word := by unfold wsX11_word; exact (gi_cons dw_1418 (goodIn_app gp_wsX11_word_o gp_wsX11_appends))
set_option maxRecDepth 100000 in
theorem gp_wsX11_init : GoodIn lw_tbl wsX11_init := by unfold wsX11_init; exact (gi_cons dw_1414 (goodIn_app (goodIn_app gp_wsX11_init_o (goodIn_app gp_wsX11_plain (goodIn_app gp_wsX11_word (goodIn_app gp_wsX11_begins gp_wsX11_keepsRow)))) gp_wsX110))
theorem glv_X10_alike : GoodIn lw_tbl (wsV R_law 125 RX10 yX10_alike wsX10_alike) := goodIn_app (gi_cons dw_1045 (gi_cons dw_1044 (gi_cons dw_1043 (gi_cons dw_11 gi_nil)))) gp_wsX10_alike
theorem glv_X10_all : GoodIn lw_tbl (wsV R_law 81 RX10 yX10_all wsX10_all) := goodIn_app (gi_cons dw_864 (gi_cons dw_863 (gi_cons dw_862 (gi_cons dw_11 gi_nil)))) gp_wsX10_all
theorem glv_X10_allGo : GoodIn lw_tbl (wsV R_law 149 RX10 yX10_allGo wsX10_allGo) := goodIn_app (gi_cons dw_1101 (gi_cons dw_1100 (gi_cons dw_1099 (gi_cons dw_11 gi_nil)))) gp_wsX10_allGo
theorem glv_X10_ask : GoodIn lw_tbl (wsV R_law 194 RX10 yX10_ask wsX10_ask) := goodIn_app (gi_cons dw_1260 (gi_cons dw_1259 (gi_cons dw_1258 (gi_cons dw_11 gi_nil)))) gp_wsX10_ask
theorem glv_X10_back : GoodIn lw_tbl (wsV R_law 18 RX10 yX10_back wsX10_back) := goodIn_app (gi_cons dw_29 (gi_cons dw_28 (gi_cons dw_27 (gi_cons dw_11 gi_nil)))) gp_wsX10_back
theorem glv_X10_bears : GoodIn lw_tbl (wsV R_law 89 RX10 yX10_bears wsX10_bears) := goodIn_app (gi_cons dw_898 (gi_cons dw_897 (gi_cons dw_896 (gi_cons dw_11 gi_nil)))) gp_wsX10_bears
theorem glv_X10_buoy : GoodIn lw_tbl (wsV R_law 54 RX10 yX10_buoy wsX10_buoy) := goodIn_app (gi_cons dw_757 (gi_cons dw_756 (gi_cons dw_755 (gi_cons dw_11 gi_nil)))) gp_wsX10_buoy
theorem glv_X10_cases : GoodIn lw_tbl (wsV R_law 73 RX10 yX10_cases wsX10_cases) := goodIn_app (gi_cons dw_826 (gi_cons dw_825 (gi_cons dw_824 (gi_cons dw_11 gi_nil)))) gp_wsX10_cases
theorem glv_X10_chance : GoodIn lw_tbl (wsV R_law 77 RX10 yX10_chance wsX10_chance) := goodIn_app (gi_cons dw_845 (gi_cons dw_844 (gi_cons dw_843 (gi_cons dw_11 gi_nil)))) gp_wsX10_chance
theorem glv_X10_chosen : GoodIn lw_tbl (wsV R_law 145 RX10 yX10_chosen wsX10_chosen) := goodIn_app (gi_cons dw_1088 (gi_cons dw_1087 (gi_cons dw_1086 (gi_cons dw_11 gi_nil)))) gp_wsX10_chosen
theorem glv_X10_count : GoodIn lw_tbl (wsV R_law 206 RX10 yX10_count wsX10_count) := goodIn_app (gi_cons dw_1319 (gi_cons dw_1318 (gi_cons dw_1317 (gi_cons dw_11 gi_nil)))) gp_wsX10_count
theorem glv_X10_darers : GoodIn lw_tbl (wsV R_law 153 RX10 yX10_darers wsX10_darers) := goodIn_app (gi_cons dw_1113 (gi_cons dw_1112 (gi_cons dw_1111 (gi_cons dw_11 gi_nil)))) gp_wsX10_darers
theorem glv_X10_dearest : GoodIn lw_tbl (wsV R_law 141 RX10 yX10_dearest wsX10_dearest) := goodIn_app (gi_cons dw_1080 (gi_cons dw_1079 (gi_cons dw_1078 (gi_cons dw_11 gi_nil)))) gp_wsX10_dearest
theorem glv_X10_drawn : GoodIn lw_tbl (wsV R_law 173 RX10 yX10_drawn wsX10_drawn) := goodIn_app (gi_cons dw_1156 (gi_cons dw_1155 (gi_cons dw_1154 (gi_cons dw_11 gi_nil)))) gp_wsX10_drawn
theorem glv_X10_enough : GoodIn lw_tbl (wsV R_law 97 RX10 yX10_enough wsX10_enough) := goodIn_app (gi_cons dw_917 (gi_cons dw_916 (gi_cons dw_915 (gi_cons dw_11 gi_nil)))) gp_wsX10_enough
theorem glv_X10_feed : GoodIn lw_tbl (wsV R_law 13 RX10 yX10_feed wsX10_feed) := goodIn_app (gi_cons dw_14 (gi_cons dw_13 (gi_cons dw_12 (gi_cons dw_11 gi_nil)))) gp_wsX10_feed
theorem glv_X10_fetch : GoodIn lw_tbl (wsV R_law 59 RX10 yX10_fetch wsX10_fetch) := goodIn_app (gi_cons dw_765 (gi_cons dw_764 (gi_cons dw_763 (gi_cons dw_11 gi_nil)))) gp_wsX10_fetch
theorem glv_X10_fit : GoodIn lw_tbl (wsV R_law 186 RX10 yX10_fit wsX10_fit) := goodIn_app (gi_cons dw_1221 (gi_cons dw_1220 (gi_cons dw_1219 (gi_cons dw_11 gi_nil)))) gp_wsX10_fit
theorem glv_X10_forget : GoodIn lw_tbl (wsV R_law 182 RX10 yX10_forget wsX10_forget) := goodIn_app (gi_cons dw_1182 (gi_cons dw_1181 (gi_cons dw_1180 (gi_cons dw_11 gi_nil)))) gp_wsX10_forget
theorem glv_X10_go : GoodIn lw_tbl (wsV R_law 50 RX10 yX10_go wsX10_go) := goodIn_app (gi_cons dw_709 (gi_cons dw_708 (gi_cons dw_707 (gi_cons dw_11 gi_nil)))) gp_wsX10_go
theorem glv_X10_hold : GoodIn lw_tbl (wsV R_law 198 RX10 yX10_hold wsX10_hold) := goodIn_app (gi_cons dw_1277 (gi_cons dw_1276 (gi_cons dw_1275 (gi_cons dw_11 gi_nil)))) gp_wsX10_hold
theorem glv_X10_left : GoodIn lw_tbl (wsV R_law 101 RX10 yX10_left wsX10_left) := goodIn_app (gi_cons dw_929 (gi_cons dw_928 (gi_cons dw_927 (gi_cons dw_11 gi_nil)))) gp_wsX10_left
theorem glv_X10_lie : GoodIn lw_tbl (wsV R_law 190 RX10 yX10_lie wsX10_lie) := goodIn_app (gi_cons dw_1248 (gi_cons dw_1247 (gi_cons dw_1246 (gi_cons dw_11 gi_nil)))) gp_wsX10_lie
theorem glv_X10_likeliest : GoodIn lw_tbl (wsV R_law 85 RX10 yX10_likeliest wsX10_likeliest) := goodIn_app (gi_cons dw_883 (gi_cons dw_882 (gi_cons dw_881 (gi_cons dw_11 gi_nil)))) gp_wsX10_likeliest
theorem glv_X10_needs : GoodIn lw_tbl (wsV R_law 45 RX10 yX10_needs wsX10_needs) := goodIn_app (gi_cons dw_669 (gi_cons dw_668 (gi_cons dw_667 (gi_cons dw_11 gi_nil)))) gp_wsX10_needs
theorem glv_X10_next : GoodIn lw_tbl (wsV R_law 165 RX10 yX10_next wsX10_next) := goodIn_app (gi_cons dw_1137 (gi_cons dw_1136 (gi_cons dw_1135 (gi_cons dw_11 gi_nil)))) gp_wsX10_next
theorem glv_X10_odds : GoodIn lw_tbl (wsV R_law 37 RX10 yX10_odds wsX10_odds) := goodIn_app (gi_cons dw_622 (gi_cons dw_621 (gi_cons dw_620 (gi_cons dw_11 gi_nil)))) gp_wsX10_odds
theorem glv_X10_open : GoodIn lw_tbl (wsV R_law 157 RX10 yX10_open wsX10_open) := goodIn_app (gi_cons dw_1121 (gi_cons dw_1120 (gi_cons dw_1119 (gi_cons dw_11 gi_nil)))) gp_wsX10_open
theorem glv_X10_party : GoodIn lw_tbl (wsV R_law 41 RX10 yX10_party wsX10_party) := goodIn_app (gi_cons dw_646 (gi_cons dw_645 (gi_cons dw_644 (gi_cons dw_11 gi_nil)))) gp_wsX10_party
theorem glv_X10_place : GoodIn lw_tbl (wsV R_law 28 RX10 yX10_place wsX10_place) := goodIn_app (gi_cons dw_483 (gi_cons dw_482 (gi_cons dw_481 (gi_cons dw_11 gi_nil)))) gp_wsX10_place
theorem glv_X10_rank : GoodIn lw_tbl (wsV R_law 109 RX10 yX10_rank wsX10_rank) := goodIn_app (gi_cons dw_974 (gi_cons dw_973 (gi_cons dw_972 (gi_cons dw_11 gi_nil)))) gp_wsX10_rank
theorem glv_X10_ranked : GoodIn lw_tbl (wsV R_law 113 RX10 yX10_ranked wsX10_ranked) := goodIn_app (gi_cons dw_1005 (gi_cons dw_1004 (gi_cons dw_1003 (gi_cons dw_11 gi_nil)))) gp_wsX10_ranked
theorem glv_X10_read : GoodIn lw_tbl (wsV R_law 23 RX10 yX10_read wsX10_read) := goodIn_app (gi_cons dw_329 (gi_cons dw_328 (gi_cons dw_327 (gi_cons dw_11 gi_nil)))) gp_wsX10_read
theorem glv_X10_restore : GoodIn lw_tbl (wsV R_law 202 RX10 yX10_restore wsX10_restore) := goodIn_app (gi_cons dw_1289 (gi_cons dw_1288 (gi_cons dw_1287 (gi_cons dw_11 gi_nil)))) gp_wsX10_restore
theorem glv_X10_safest : GoodIn lw_tbl (wsV R_law 93 RX10 yX10_safest wsX10_safest) := goodIn_app (gi_cons dw_906 (gi_cons dw_905 (gi_cons dw_904 (gi_cons dw_11 gi_nil)))) gp_wsX10_safest
theorem glv_X10_share : GoodIn lw_tbl (wsV R_law 117 RX10 yX10_share wsX10_share) := goodIn_app (gi_cons dw_1013 (gi_cons dw_1012 (gi_cons dw_1011 (gi_cons dw_11 gi_nil)))) gp_wsX10_share
theorem glv_X10_spread : GoodIn lw_tbl (wsV R_law 137 RX10 yX10_spread wsX10_spread) := goodIn_app (gi_cons dw_1072 (gi_cons dw_1071 (gi_cons dw_1070 (gi_cons dw_11 gi_nil)))) gp_wsX10_spread
theorem glv_X10_stuck : GoodIn lw_tbl (wsV R_law 133 RX10 yX10_stuck wsX10_stuck) := goodIn_app (gi_cons dw_1061 (gi_cons dw_1060 (gi_cons dw_1059 (gi_cons dw_11 gi_nil)))) gp_wsX10_stuck
theorem glv_X10_sunk : GoodIn lw_tbl (wsV R_law 129 RX10 yX10_sunk wsX10_sunk) := goodIn_app (gi_cons dw_1053 (gi_cons dw_1052 (gi_cons dw_1051 (gi_cons dw_11 gi_nil)))) gp_wsX10_sunk
theorem glv_X10_sure : GoodIn lw_tbl (wsV R_law 121 RX10 yX10_sure wsX10_sure) := goodIn_app (gi_cons dw_1032 (gi_cons dw_1031 (gi_cons dw_1030 (gi_cons dw_11 gi_nil)))) gp_wsX10_sure
theorem glv_X10_tell : GoodIn lw_tbl (wsV R_law 177 RX10 yX10_tell wsX10_tell) := goodIn_app (gi_cons dw_1171 (gi_cons dw_1170 (gi_cons dw_1169 (gi_cons dw_11 gi_nil)))) gp_wsX10_tell
theorem glv_X10_then : GoodIn lw_tbl (wsV R_law 161 RX10 yX10_then wsX10_then) := goodIn_app (gi_cons dw_1129 (gi_cons dw_1128 (gi_cons dw_1127 (gi_cons dw_11 gi_nil)))) gp_wsX10_then
theorem glv_X10_undo : GoodIn lw_tbl (wsV R_law 68 RX10 yX10_undo wsX10_undo) := goodIn_app (gi_cons dw_806 (gi_cons dw_805 (gi_cons dw_804 (gi_cons dw_11 gi_nil)))) gp_wsX10_undo
theorem glv_X10_wave : GoodIn lw_tbl (wsV R_law 32 RX10 yX10_wave wsX10_wave) := goodIn_app (gi_cons dw_551 (gi_cons dw_550 (gi_cons dw_549 (gi_cons dw_11 gi_nil)))) gp_wsX10_wave
theorem glv_X10_wisest : GoodIn lw_tbl (wsV R_law 105 RX10 yX10_wisest wsX10_wisest) := goodIn_app (gi_cons dw_948 (gi_cons dw_947 (gi_cons dw_946 (gi_cons dw_11 gi_nil)))) gp_wsX10_wisest
theorem glv_X10_year : GoodIn lw_tbl (wsV R_law 169 RX10 yX10_year wsX10_year) := goodIn_app (gi_cons dw_1148 (gi_cons dw_1147 (gi_cons dw_1146 (gi_cons dw_11 gi_nil)))) gp_wsX10_year
theorem glv_X10_years : GoodIn lw_tbl (wsV R_law 64 RX10 yX10_years wsX10_years) := goodIn_app (gi_cons dw_782 (gi_cons dw_781 (gi_cons dw_780 (gi_cons dw_11 gi_nil)))) gp_wsX10_years
theorem glv_X11_alike : GoodIn lw_tbl (wsV R_law 128 RX11 yX11_alike wsX11_alike) := goodIn_app (gi_cons dw_1049 (gi_cons dw_1048 (gi_cons dw_1047 (gi_cons dw_16 gi_nil)))) gp_wsX11_alike
theorem glv_X11_all : GoodIn lw_tbl (wsV R_law 84 RX11 yX11_all wsX11_all) := goodIn_app (gi_cons dw_872 (gi_cons dw_871 (gi_cons dw_870 (gi_cons dw_16 gi_nil)))) gp_wsX11_all
theorem glv_X11_allGo : GoodIn lw_tbl (wsV R_law 152 RX11 yX11_allGo wsX11_allGo) := goodIn_app (gi_cons dw_1109 (gi_cons dw_1108 (gi_cons dw_1107 (gi_cons dw_16 gi_nil)))) gp_wsX11_allGo
theorem glv_X11_ask : GoodIn lw_tbl (wsV R_law 197 RX11 yX11_ask wsX11_ask) := goodIn_app (gi_cons dw_1269 (gi_cons dw_1268 (gi_cons dw_1267 (gi_cons dw_16 gi_nil)))) gp_wsX11_ask
theorem glv_X11_back : GoodIn lw_tbl (wsV R_law 22 RX11 yX11_back wsX11_back) := goodIn_app (gi_cons dw_33 (gi_cons dw_32 (gi_cons dw_31 (gi_cons dw_16 gi_nil)))) gp_wsX11_back
theorem glv_X11_bears : GoodIn lw_tbl (wsV R_law 92 RX11 yX11_bears wsX11_bears) := goodIn_app (gi_cons dw_902 (gi_cons dw_901 (gi_cons dw_900 (gi_cons dw_16 gi_nil)))) gp_wsX11_bears
theorem glv_X11_buoy : GoodIn lw_tbl (wsV R_law 58 RX11 yX11_buoy wsX11_buoy) := goodIn_app (gi_cons dw_761 (gi_cons dw_760 (gi_cons dw_759 (gi_cons dw_16 gi_nil)))) gp_wsX11_buoy
theorem glv_X11_cases : GoodIn lw_tbl (wsV R_law 76 RX11 yX11_cases wsX11_cases) := goodIn_app (gi_cons dw_834 (gi_cons dw_833 (gi_cons dw_832 (gi_cons dw_16 gi_nil)))) gp_wsX11_cases
theorem glv_X11_chance : GoodIn lw_tbl (wsV R_law 80 RX11 yX11_chance wsX11_chance) := goodIn_app (gi_cons dw_857 (gi_cons dw_856 (gi_cons dw_855 (gi_cons dw_16 gi_nil)))) gp_wsX11_chance
theorem glv_X11_chosen : GoodIn lw_tbl (wsV R_law 148 RX11 yX11_chosen wsX11_chosen) := goodIn_app (gi_cons dw_1092 (gi_cons dw_1091 (gi_cons dw_1090 (gi_cons dw_16 gi_nil)))) gp_wsX11_chosen
theorem glv_X11_count : GoodIn lw_tbl (wsV R_law 209 RX11 yX11_count wsX11_count) := goodIn_app (gi_cons dw_1331 (gi_cons dw_1330 (gi_cons dw_1329 (gi_cons dw_16 gi_nil)))) gp_wsX11_count
theorem glv_X11_darers : GoodIn lw_tbl (wsV R_law 156 RX11 yX11_darers wsX11_darers) := goodIn_app (gi_cons dw_1117 (gi_cons dw_1116 (gi_cons dw_1115 (gi_cons dw_16 gi_nil)))) gp_wsX11_darers
theorem glv_X11_dearest : GoodIn lw_tbl (wsV R_law 144 RX11 yX11_dearest wsX11_dearest) := goodIn_app (gi_cons dw_1084 (gi_cons dw_1083 (gi_cons dw_1082 (gi_cons dw_16 gi_nil)))) gp_wsX11_dearest
theorem glv_X11_drawn : GoodIn lw_tbl (wsV R_law 176 RX11 yX11_drawn wsX11_drawn) := goodIn_app (gi_cons dw_1160 (gi_cons dw_1159 (gi_cons dw_1158 (gi_cons dw_16 gi_nil)))) gp_wsX11_drawn
theorem glv_X11_enough : GoodIn lw_tbl (wsV R_law 100 RX11 yX11_enough wsX11_enough) := goodIn_app (gi_cons dw_921 (gi_cons dw_920 (gi_cons dw_919 (gi_cons dw_16 gi_nil)))) gp_wsX11_enough
theorem glv_X11_feed : GoodIn lw_tbl (wsV R_law 17 RX11 yX11_feed wsX11_feed) := goodIn_app (gi_cons dw_25 (gi_cons dw_24 (gi_cons dw_23 (gi_cons dw_16 gi_nil)))) gp_wsX11_feed
theorem glv_X11_fetch : GoodIn lw_tbl (wsV R_law 63 RX11 yX11_fetch wsX11_fetch) := goodIn_app (gi_cons dw_769 (gi_cons dw_768 (gi_cons dw_767 (gi_cons dw_16 gi_nil)))) gp_wsX11_fetch
theorem glv_X11_fit : GoodIn lw_tbl (wsV R_law 189 RX11 yX11_fit wsX11_fit) := goodIn_app (gi_cons dw_1237 (gi_cons dw_1236 (gi_cons dw_1235 (gi_cons dw_16 gi_nil)))) gp_wsX11_fit
theorem glv_X11_forget : GoodIn lw_tbl (wsV R_law 185 RX11 yX11_forget wsX11_forget) := goodIn_app (gi_cons dw_1186 (gi_cons dw_1185 (gi_cons dw_1184 (gi_cons dw_16 gi_nil)))) gp_wsX11_forget
theorem glv_X11_go : GoodIn lw_tbl (wsV R_law 53 RX11 yX11_go wsX11_go) := goodIn_app (gi_cons dw_750 (gi_cons dw_749 (gi_cons dw_748 (gi_cons dw_16 gi_nil)))) gp_wsX11_go
theorem glv_X11_hold : GoodIn lw_tbl (wsV R_law 201 RX11 yX11_hold wsX11_hold) := goodIn_app (gi_cons dw_1282 (gi_cons dw_1281 (gi_cons dw_1280 (gi_cons dw_16 gi_nil)))) gp_wsX11_hold
theorem glv_X11_left : GoodIn lw_tbl (wsV R_law 104 RX11 yX11_left wsX11_left) := goodIn_app (gi_cons dw_937 (gi_cons dw_936 (gi_cons dw_935 (gi_cons dw_16 gi_nil)))) gp_wsX11_left
theorem glv_X11_lie : GoodIn lw_tbl (wsV R_law 193 RX11 yX11_lie wsX11_lie) := goodIn_app (gi_cons dw_1252 (gi_cons dw_1251 (gi_cons dw_1250 (gi_cons dw_16 gi_nil)))) gp_wsX11_lie
theorem glv_X11_likeliest : GoodIn lw_tbl (wsV R_law 88 RX11 yX11_likeliest wsX11_likeliest) := goodIn_app (gi_cons dw_891 (gi_cons dw_890 (gi_cons dw_889 (gi_cons dw_16 gi_nil)))) gp_wsX11_likeliest
theorem glv_X11_needs : GoodIn lw_tbl (wsV R_law 49 RX11 yX11_needs wsX11_needs) := goodIn_app (gi_cons dw_677 (gi_cons dw_676 (gi_cons dw_675 (gi_cons dw_16 gi_nil)))) gp_wsX11_needs
theorem glv_X11_next : GoodIn lw_tbl (wsV R_law 168 RX11 yX11_next wsX11_next) := goodIn_app (gi_cons dw_1141 (gi_cons dw_1140 (gi_cons dw_1139 (gi_cons dw_16 gi_nil)))) gp_wsX11_next
theorem glv_X11_odds : GoodIn lw_tbl (wsV R_law 40 RX11 yX11_odds wsX11_odds) := goodIn_app (gi_cons dw_629 (gi_cons dw_628 (gi_cons dw_627 (gi_cons dw_16 gi_nil)))) gp_wsX11_odds
theorem glv_X11_open : GoodIn lw_tbl (wsV R_law 160 RX11 yX11_open wsX11_open) := goodIn_app (gi_cons dw_1125 (gi_cons dw_1124 (gi_cons dw_1123 (gi_cons dw_16 gi_nil)))) gp_wsX11_open
theorem glv_X11_party : GoodIn lw_tbl (wsV R_law 44 RX11 yX11_party wsX11_party) := goodIn_app (gi_cons dw_662 (gi_cons dw_661 (gi_cons dw_660 (gi_cons dw_16 gi_nil)))) gp_wsX11_party
theorem glv_X11_place : GoodIn lw_tbl (wsV R_law 31 RX11 yX11_place wsX11_place) := goodIn_app (gi_cons dw_487 (gi_cons dw_486 (gi_cons dw_485 (gi_cons dw_16 gi_nil)))) gp_wsX11_place
theorem glv_X11_rank : GoodIn lw_tbl (wsV R_law 112 RX11 yX11_rank wsX11_rank) := goodIn_app (gi_cons dw_991 (gi_cons dw_990 (gi_cons dw_989 (gi_cons dw_16 gi_nil)))) gp_wsX11_rank
theorem glv_X11_ranked : GoodIn lw_tbl (wsV R_law 116 RX11 yX11_ranked wsX11_ranked) := goodIn_app (gi_cons dw_1009 (gi_cons dw_1008 (gi_cons dw_1007 (gi_cons dw_16 gi_nil)))) gp_wsX11_ranked
theorem glv_X11_read : GoodIn lw_tbl (wsV R_law 27 RX11 yX11_read wsX11_read) := goodIn_app (gi_cons dw_479 (gi_cons dw_478 (gi_cons dw_477 (gi_cons dw_16 gi_nil)))) gp_wsX11_read
theorem glv_X11_restore : GoodIn lw_tbl (wsV R_law 205 RX11 yX11_restore wsX11_restore) := goodIn_app (gi_cons dw_1293 (gi_cons dw_1292 (gi_cons dw_1291 (gi_cons dw_16 gi_nil)))) gp_wsX11_restore
theorem glv_X11_safest : GoodIn lw_tbl (wsV R_law 96 RX11 yX11_safest wsX11_safest) := goodIn_app (gi_cons dw_910 (gi_cons dw_909 (gi_cons dw_908 (gi_cons dw_16 gi_nil)))) gp_wsX11_safest
theorem glv_X11_share : GoodIn lw_tbl (wsV R_law 120 RX11 yX11_share wsX11_share) := goodIn_app (gi_cons dw_1017 (gi_cons dw_1016 (gi_cons dw_1015 (gi_cons dw_16 gi_nil)))) gp_wsX11_share
theorem glv_X11_spread : GoodIn lw_tbl (wsV R_law 140 RX11 yX11_spread wsX11_spread) := goodIn_app (gi_cons dw_1076 (gi_cons dw_1075 (gi_cons dw_1074 (gi_cons dw_16 gi_nil)))) gp_wsX11_spread
theorem glv_X11_stuck : GoodIn lw_tbl (wsV R_law 136 RX11 yX11_stuck wsX11_stuck) := goodIn_app (gi_cons dw_1065 (gi_cons dw_1064 (gi_cons dw_1063 (gi_cons dw_16 gi_nil)))) gp_wsX11_stuck
theorem glv_X11_sunk : GoodIn lw_tbl (wsV R_law 132 RX11 yX11_sunk wsX11_sunk) := goodIn_app (gi_cons dw_1057 (gi_cons dw_1056 (gi_cons dw_1055 (gi_cons dw_16 gi_nil)))) gp_wsX11_sunk
theorem glv_X11_sure : GoodIn lw_tbl (wsV R_law 124 RX11 yX11_sure wsX11_sure) := goodIn_app (gi_cons dw_1040 (gi_cons dw_1039 (gi_cons dw_1038 (gi_cons dw_16 gi_nil)))) gp_wsX11_sure
theorem glv_X11_tell : GoodIn lw_tbl (wsV R_law 181 RX11 yX11_tell wsX11_tell) := goodIn_app (gi_cons dw_1178 (gi_cons dw_1177 (gi_cons dw_1176 (gi_cons dw_16 gi_nil)))) gp_wsX11_tell
theorem glv_X11_then : GoodIn lw_tbl (wsV R_law 164 RX11 yX11_then wsX11_then) := goodIn_app (gi_cons dw_1133 (gi_cons dw_1132 (gi_cons dw_1131 (gi_cons dw_16 gi_nil)))) gp_wsX11_then
theorem glv_X11_undo : GoodIn lw_tbl (wsV R_law 72 RX11 yX11_undo wsX11_undo) := goodIn_app (gi_cons dw_810 (gi_cons dw_809 (gi_cons dw_808 (gi_cons dw_16 gi_nil)))) gp_wsX11_undo
theorem glv_X11_wave : GoodIn lw_tbl (wsV R_law 36 RX11 yX11_wave wsX11_wave) := goodIn_app (gi_cons dw_615 (gi_cons dw_614 (gi_cons dw_613 (gi_cons dw_16 gi_nil)))) gp_wsX11_wave
theorem glv_X11_wisest : GoodIn lw_tbl (wsV R_law 108 RX11 yX11_wisest wsX11_wisest) := goodIn_app (gi_cons dw_952 (gi_cons dw_951 (gi_cons dw_950 (gi_cons dw_16 gi_nil)))) gp_wsX11_wisest
theorem glv_X11_year : GoodIn lw_tbl (wsV R_law 172 RX11 yX11_year wsX11_year) := goodIn_app (gi_cons dw_1152 (gi_cons dw_1151 (gi_cons dw_1150 (gi_cons dw_16 gi_nil)))) gp_wsX11_year
theorem glv_X11_years : GoodIn lw_tbl (wsV R_law 67 RX11 yX11_years wsX11_years) := goodIn_app (gi_cons dw_799 (gi_cons dw_798 (gi_cons dw_797 (gi_cons dw_16 gi_nil)))) gp_wsX11_years
