set_option maxRecDepth 100000 in
theorem gp_wsX11_faresOf : GoodIn lw_tbl wsX11_faresOf := by unfold wsX11_faresOf; exact (gi_cons dw_658 (goodIn_app (goodIn_app gp_wsX11_faresOf_o (goodIn_app gp_wsX11_looks (goodIn_app gp_wsX11_lawTells gp_wsX11_within))) gp_wsX110))
set_option maxRecDepth 100000 in
theorem gp_wsX11_doesDare_o : GoodIn lw_tbl wsX11_doesDare_o := by unfold wsX11_doesDare_o; exact (gi_cons dw_598 (gi_cons dw_597 (gi_cons dw_596 (gi_cons dw_16 (gi_cons dw_592 (gi_cons dw_591 (gi_cons dw_590 gi_nil)))))))
set_option maxRecDepth 100000 in
theorem gp_wsX11_doesDare : GoodIn lw_tbl wsX11_doesDare := by unfold wsX11_doesDare; exact (gi_cons dw_659 (goodIn_app (goodIn_app gp_wsX11_doesDare_o (goodIn_app gp_wsX11_looks gp_wsX11_lawTells)) gp_wsX110))
set_option maxRecDepth 100000 in
theorem gp_wsX11_party : GoodIn lw_tbl wsX11_party := by unfold wsX11_party; exact (gi_cons dw_647 (goodIn_app (goodIn_app gp_wsX11_party_o (goodIn_app gp_wsX11_isParty (goodIn_app gp_wsX11_copies (goodIn_app gp_wsX11_faresOf gp_wsX11_doesDare)))) gp_wsX110))
set_option maxRecDepth 100000 in
theorem gp_wsX10_needs_o : GoodIn lw_tbl wsX10_needs_o := by unfold wsX10_needs_o; exact (gi_cons dw_50 (gi_cons dw_498 (gi_cons dw_49 (gi_cons dw_636 (gi_cons dw_43 (gi_cons dw_635 (gi_cons dw_497 (gi_cons dw_496 (gi_cons dw_618 (gi_cons dw_617 (gi_cons dw_11 (gi_cons dw_665 (gi_cons dw_494 (gi_cons dw_664 (gi_cons dw_313 (gi_cons dw_526 (gi_cons dw_75 (gi_cons dw_133 gi_nil))))))))))))))))))
set_option maxRecDepth 100000 in
theorem gp_wsX0_needOf_o : GoodIn lw_tbl wsX0_needOf_o := by unfold wsX0_needOf_o; exact (gi_cons dw_524 (gi_cons dw_501 (gi_cons dw_521 (gi_cons dw_520 (gi_cons dw_519 (gi_cons dw_494 (gi_cons dw_641 (gi_cons dw_640 (gi_cons dw_639 (gi_cons dw_518 (gi_cons dw_517 (gi_cons dw_516 (gi_cons dw_295 (gi_cons dw_43 (gi_cons dw_294 (gi_cons dw_515 (gi_cons dw_75 (gi_cons dw_514 (gi_cons dw_513 (gi_cons dw_11 gi_nil))))))))))))))))))))
set_option maxRecDepth 100000 in
theorem gp_wsX0_needOf : GoodIn lw_tbl wsX0_needOf := by unfold wsX0_needOf; exact (gi_cons dw_666 (goodIn_app (goodIn_app (goodIn_app (goodIn_app (goodIn_app gp_wsX0_needOf_o (goodIn_app gp_wsX0_clearVars (goodIn_app gp_wsX0_setParty (goodIn_app gp_wsX0_setWave (goodIn_app gp_wsX5_oddsAt (goodIn_app gp_wsX1_valueOf gp_wsX10_heldTo)))))) gp_wsX00) gp_wsX50) gp_wsX60) gp_wsX10))
set_option maxRecDepth 100000 in
theorem gp_wsX10_needs : GoodIn lw_tbl wsX10_needs := by unfold wsX10_needs; exact (gi_cons dw_663 (goodIn_app (goodIn_app (goodIn_app (goodIn_app (goodIn_app (goodIn_app gp_wsX10_needs_o (goodIn_app gp_wsX5_hasParty (goodIn_app gp_wsX5_hasWave (goodIn_app gp_wsX10_isThing gp_wsX0_needOf)))) gp_wsX100) gp_wsX50) gp_wsX00) gp_wsX60) gp_wsX10))
set_option maxRecDepth 100000 in
theorem gp_wsX11_needs_o : GoodIn lw_tbl wsX11_needs_o := by unfold wsX11_needs_o; exact (gi_cons dw_656 (gi_cons dw_655 (gi_cons dw_654 (gi_cons dw_16 (gi_cons dw_567 (gi_cons dw_566 (gi_cons dw_565 (gi_cons dw_625 (gi_cons dw_624 (gi_cons dw_564 (gi_cons dw_563 (gi_cons dw_562 (gi_cons dw_673 (gi_cons dw_672 (gi_cons dw_671 gi_nil)))))))))))))))
set_option maxRecDepth 100000 in
theorem gp_wsX11_needsOf_o : GoodIn lw_tbl wsX11_needsOf_o := by unfold wsX11_needsOf_o; exact (gi_cons dw_600 (gi_cons dw_598 (gi_cons dw_597 (gi_cons dw_596 (gi_cons dw_16 (gi_cons dw_595 (gi_cons dw_594 (gi_cons dw_593 (gi_cons dw_576 (gi_cons dw_575 (gi_cons dw_574 (gi_cons dw_592 (gi_cons dw_591 (gi_cons dw_590 (gi_cons dw_589 (gi_cons dw_588 gi_nil))))))))))))))))
set_option maxRecDepth 100000 in
theorem gp_wsX11_needsOf : GoodIn lw_tbl wsX11_needsOf := by unfold wsX11_needsOf; exact (gi_cons dw_674 (goodIn_app (goodIn_app gp_wsX11_needsOf_o (goodIn_app gp_wsX11_looks (goodIn_app gp_wsX11_looksOver (goodIn_app gp_wsX11_oddsAt (goodIn_app gp_wsX11_lawTells gp_wsX11_within))))) gp_wsX110))
set_option maxRecDepth 100000 in
theorem gp_wsX11_needs : GoodIn lw_tbl wsX11_needs := by unfold wsX11_needs; exact (gi_cons dw_670 (goodIn_app (goodIn_app gp_wsX11_needs_o (goodIn_app gp_wsX11_isParty (goodIn_app gp_wsX11_isWave (goodIn_app gp_wsX11_isThing (goodIn_app gp_wsX11_copies gp_wsX11_needsOf))))) gp_wsX110))
set_option maxRecDepth 100000 in
theorem gp_wsX10_go_o : GoodIn lw_tbl wsX10_go_o := by unfold wsX10_go_o; exact (gi_cons dw_50 (gi_cons dw_48 (gi_cons dw_49 (gi_cons dw_498 (gi_cons dw_687 (gi_cons dw_686 (gi_cons dw_685 (gi_cons dw_11 (gi_cons dw_43 (gi_cons dw_684 (gi_cons dw_683 (gi_cons dw_682 (gi_cons dw_36 (gi_cons dw_681 (gi_cons dw_680 (gi_cons dw_494 (gi_cons dw_679 gi_nil)))))))))))))))))
set_option maxRecDepth 100000 in
theorem gp_wsX10_isHere_o : GoodIn lw_tbl wsX10_isHere_o := by unfold wsX10_isHere_o; exact (gi_cons dw_50 (gi_cons dw_49 (gi_cons dw_636 (gi_cons dw_43 (gi_cons dw_635 gi_nil)))))
set_option maxRecDepth 100000 in
theorem gp_wsX10_isHere : GoodIn lw_tbl wsX10_isHere := by unfold wsX10_isHere; exact (gi_cons dw_688 (goodIn_app (goodIn_app (goodIn_app (goodIn_app gp_wsX10_isHere_o gp_wsX5_hasParty) gp_wsX100) gp_wsX60) gp_wsX50))
set_option maxRecDepth 100000 in
theorem gp_wsX5_hasGuess : GoodIn lw_tbl wsX5_hasGuess := by unfold wsX5_hasGuess; exact (gi_cons dw_689 (goodIn_app (gi_cons dw_79 gi_nil) gp_wsX50))
set_option maxRecDepth 100000 in
theorem gp_wsX3_remember_o : GoodIn lw_tbl wsX3_remember_o := by unfold wsX3_remember_o; exact (gi_cons dw_694 (gi_cons dw_693 (gi_cons dw_326 (gi_cons dw_692 (gi_cons dw_39 (gi_cons dw_691 gi_nil))))))
set_option maxRecDepth 100000 in
theorem gp_wsX6_copyFrom : GoodIn lw_tbl wsX6_copyFrom := by unfold wsX6_copyFrom; exact (gi_cons dw_695 (goodIn_app (gi_cons dw_322 (gi_cons dw_696 (gi_cons dw_308 (gi_cons dw_307 (gi_cons dw_306 (gi_cons dw_321 (gi_cons dw_320 (gi_cons dw_319 (gi_cons dw_318 (gi_cons dw_317 (gi_cons dw_316 gi_nil))))))))))) gp_wsX60))
set_option maxRecDepth 100000 in
theorem gp_wsX3_remember : GoodIn lw_tbl wsX3_remember := by unfold wsX3_remember; exact (gi_cons dw_690 (goodIn_app (goodIn_app (goodIn_app gp_wsX3_remember_o gp_wsX6_copyFrom) gp_wsX30) gp_wsX60))
set_option maxRecDepth 100000 in
theorem gp_wsX0_sendBy_o : GoodIn lw_tbl wsX0_sendBy_o := by unfold wsX0_sendBy_o; exact (gi_cons dw_501 (gi_cons dw_703 (gi_cons dw_634 (gi_cons dw_633 (gi_cons dw_494 (gi_cons dw_11 (gi_cons dw_702 (gi_cons dw_701 (gi_cons dw_700 (gi_cons dw_699 (gi_cons dw_698 (gi_cons dw_492 (gi_cons dw_491 gi_nil)))))))))))))
set_option maxRecDepth 100000 in
theorem gp_wsX10_thingIn : GoodIn lw_tbl wsX10_thingIn := by unfold wsX10_thingIn; exact (gi_cons dw_704 gi_nil)
set_option maxRecDepth 100000 in
theorem gp_wsX0_isBearing_o : GoodIn lw_tbl wsX0_isBearing_o := by unfold wsX0_isBearing_o; exact (gi_cons dw_501 (gi_cons dw_295 (gi_cons dw_43 (gi_cons dw_294 (gi_cons dw_706 (gi_cons dw_665 (gi_cons dw_664 (gi_cons dw_494 gi_nil))))))))
set_option maxRecDepth 100000 in
theorem gp_wsX0_isBearing : GoodIn lw_tbl wsX0_isBearing := by unfold wsX0_isBearing; exact (gi_cons dw_705 (goodIn_app (goodIn_app (goodIn_app (goodIn_app (goodIn_app gp_wsX0_isBearing_o (goodIn_app gp_wsX5_oddsAt gp_wsX0_needOf)) gp_wsX00) gp_wsX50) gp_wsX60) gp_wsX10))
set_option maxRecDepth 100000 in
theorem gp_wsX0_sendBy : GoodIn lw_tbl wsX0_sendBy := by unfold wsX0_sendBy; exact (gi_cons dw_697 (goodIn_app (goodIn_app (goodIn_app (goodIn_app (goodIn_app gp_wsX0_sendBy_o (goodIn_app gp_wsX0_fareOf (goodIn_app gp_wsX10_thingIn (goodIn_app gp_wsX0_isBearing gp_wsX0_thereNow)))) gp_wsX60) gp_wsX00) gp_wsX50) gp_wsX10))
set_option maxRecDepth 100000 in
theorem gp_wsX10_go : GoodIn lw_tbl wsX10_go := by unfold wsX10_go; exact (gi_cons dw_678 (goodIn_app (goodIn_app (goodIn_app (goodIn_app (goodIn_app (goodIn_app (goodIn_app gp_wsX10_go_o (goodIn_app gp_wsX10_isHere (goodIn_app gp_wsX5_hasGuess (goodIn_app gp_wsX3_remember gp_wsX0_sendBy)))) gp_wsX100) gp_wsX50) gp_wsX60) gp_wsX30) gp_wsX00) gp_wsX10))
set_option maxRecDepth 100000 in
theorem gp_wsX11_go_o : GoodIn lw_tbl wsX11_go_o := by unfold wsX11_go_o; exact (gi_cons dw_399 (gi_cons dw_358 (gi_cons dw_725 (gi_cons dw_724 (gi_cons dw_723 (gi_cons dw_16 (gi_cons dw_722 (gi_cons dw_721 (gi_cons dw_720 (gi_cons dw_564 (gi_cons dw_563 (gi_cons dw_562 (gi_cons dw_719 (gi_cons dw_718 (gi_cons dw_717 (gi_cons dw_716 (gi_cons dw_715 (gi_cons dw_714 (gi_cons dw_713 (gi_cons dw_712 (gi_cons dw_711 gi_nil)))))))))))))))))))))
set_option maxRecDepth 100000 in
theorem gp_wsX11_isHere_o : GoodIn lw_tbl wsX11_isHere_o := by unfold wsX11_isHere_o; exact (gi_cons dw_476 (gi_cons dw_656 (gi_cons dw_655 (gi_cons dw_654 (gi_cons dw_16 gi_nil)))))
set_option maxRecDepth 100000 in
theorem gp_wsX11_isHere : GoodIn lw_tbl wsX11_isHere := by unfold wsX11_isHere; exact (gi_cons dw_726 (goodIn_app (goodIn_app gp_wsX11_isHere_o gp_wsX11_isParty) gp_wsX110))
set_option maxRecDepth 100000 in
theorem gp_wsX11_isGuess_o : GoodIn lw_tbl wsX11_isGuess_o := by unfold wsX11_isGuess_o; exact (gi_cons dw_730 (gi_cons dw_729 (gi_cons dw_728 (gi_cons dw_16 (gi_cons dw_570 (gi_cons dw_569 gi_nil))))))
set_option maxRecDepth 100000 in
theorem gp_wsX11_guesses : GoodIn lw_tbl wsX11_guesses := by unfold wsX11_guesses; exact (gi_cons dw_731 (goodIn_app (gi_cons dw_473 (gi_cons dw_399 (gi_cons dw_358 gi_nil))) gp_wsX110))
set_option maxRecDepth 100000 in
theorem gp_wsX11_isGuess : GoodIn lw_tbl wsX11_isGuess := by unfold wsX11_isGuess; exact (gi_cons dw_727 (goodIn_app (goodIn_app gp_wsX11_isGuess_o (goodIn_app gp_wsX11_guesses gp_wsX11_in)) gp_wsX110))
set_option maxRecDepth 100000 in
theorem gp_wsX11_thereNumber_o : GoodIn lw_tbl wsX11_thereNumber_o := by unfold wsX11_thereNumber_o; exact (gi_cons dw_399 (gi_cons dw_358 (gi_cons dw_473 (gi_cons dw_558 (gi_cons dw_557 (gi_cons dw_556 (gi_cons dw_16 gi_nil)))))))
set_option maxRecDepth 100000 in
theorem gp_wsX11_thereNumber : GoodIn lw_tbl wsX11_thereNumber := by unfold wsX11_thereNumber; exact (gi_cons dw_732 (goodIn_app (goodIn_app gp_wsX11_thereNumber_o gp_wsX11_thereAt) gp_wsX110))
set_option maxRecDepth 100000 in
theorem gp_wsX11_goesBy_o : GoodIn lw_tbl wsX11_goesBy_o := by unfold wsX11_goesBy_o; exact (gi_cons dw_474 (gi_cons dw_399 (gi_cons dw_358 (gi_cons dw_739 (gi_cons dw_738 (gi_cons dw_737 (gi_cons dw_16 (gi_cons dw_736 (gi_cons dw_735 (gi_cons dw_734 (gi_cons dw_653 (gi_cons dw_652 (gi_cons dw_651 gi_nil)))))))))))))
set_option maxRecDepth 100000 in
theorem gp_wsX11_bearsBy_o : GoodIn lw_tbl wsX11_bearsBy_o := by unfold wsX11_bearsBy_o; exact (gi_cons dw_399 (gi_cons dw_358 (gi_cons dw_736 (gi_cons dw_735 (gi_cons dw_734 (gi_cons dw_16 (gi_cons dw_743 (gi_cons dw_742 (gi_cons dw_741 gi_nil)))))))))
set_option maxRecDepth 100000 in
theorem gp_wsX11_thingAt : GoodIn lw_tbl wsX11_thingAt := by unfold wsX11_thingAt; exact (gi_cons dw_744 (goodIn_app (gi_cons dw_473 gi_nil) gp_wsX110))
set_option maxRecDepth 100000 in
theorem gp_wsX11_doesBear_o : GoodIn lw_tbl wsX11_doesBear_o := by unfold wsX11_doesBear_o; exact (gi_cons dw_576 (gi_cons dw_575 (gi_cons dw_574 (gi_cons dw_16 (gi_cons dw_673 (gi_cons dw_672 (gi_cons dw_671 gi_nil)))))))
set_option maxRecDepth 100000 in
theorem gp_wsX11_doesBear : GoodIn lw_tbl wsX11_doesBear := by unfold wsX11_doesBear; exact (gi_cons dw_745 (goodIn_app (goodIn_app gp_wsX11_doesBear_o (goodIn_app gp_wsX11_oddsAt gp_wsX11_needsOf)) gp_wsX110))
set_option maxRecDepth 100000 in
theorem gp_wsX11_bearsBy : GoodIn lw_tbl wsX11_bearsBy := by unfold wsX11_bearsBy; exact (gi_cons dw_740 (goodIn_app (goodIn_app gp_wsX11_bearsBy_o (goodIn_app gp_wsX11_thingAt gp_wsX11_doesBear)) gp_wsX110))
set_option maxRecDepth 100000 in
theorem gp_wsX11_goesBy : GoodIn lw_tbl wsX11_goesBy := by unfold wsX11_goesBy; exact (gi_cons dw_733 (goodIn_app (goodIn_app gp_wsX11_goesBy_o (goodIn_app gp_wsX11_bearsBy (goodIn_app gp_wsX11_faresOf gp_wsX11_thingAt))) gp_wsX110))
set_option maxRecDepth 100000 in
theorem gp_wsX11_records_o : GoodIn lw_tbl wsX11_records_o := by unfold wsX11_records_o; exact (gi_cons dw_351 (gi_cons dw_747 (gi_cons dw_476 (gi_cons dw_333 (gi_cons dw_332 (gi_cons dw_331 (gi_cons dw_16 gi_nil)))))))
set_option maxRecDepth 100000 in
theorem gp_wsX11_records : GoodIn lw_tbl wsX11_records := by unfold wsX11_records; exact (gi_cons dw_746 (goodIn_app (goodIn_app gp_wsX11_records_o gp_wsX11_keepsRow) gp_wsX110))
set_option maxRecDepth 100000 in
theorem gp_wsX11_go : GoodIn lw_tbl wsX11_go := by unfold wsX11_go; exact (gi_cons dw_710 (goodIn_app (goodIn_app gp_wsX11_go_o (goodIn_app gp_wsX11_isHere (goodIn_app gp_wsX11_isGuess (goodIn_app gp_wsX11_copies (goodIn_app gp_wsX11_thereNumber (goodIn_app gp_wsX11_goesBy gp_wsX11_records)))))) gp_wsX110))
set_option maxRecDepth 100000 in
theorem gp_wsX10_buoy_o : GoodIn lw_tbl wsX10_buoy_o := by unfold wsX10_buoy_o; exact (gi_cons dw_50 (gi_cons dw_49 (gi_cons dw_48 (gi_cons dw_497 (gi_cons dw_43 (gi_cons dw_496 (gi_cons dw_618 (gi_cons dw_617 (gi_cons dw_11 (gi_cons dw_753 (gi_cons dw_752 (gi_cons dw_682 (gi_cons dw_36 (gi_cons dw_681 (gi_cons dw_39 (gi_cons dw_306 gi_nil))))))))))))))))
set_option maxRecDepth 100000 in
theorem gp_wsX10_has : GoodIn lw_tbl wsX10_has := by unfold wsX10_has; exact (gi_cons dw_754 gi_nil)
set_option maxRecDepth 100000 in
theorem gp_wsX10_buoy : GoodIn lw_tbl wsX10_buoy := by unfold wsX10_buoy; exact (gi_cons dw_751 (goodIn_app (goodIn_app (goodIn_app (goodIn_app (goodIn_app gp_wsX10_buoy_o (goodIn_app gp_wsX5_hasWave (goodIn_app gp_wsX10_isThing (goodIn_app gp_wsX10_has gp_wsX3_remember)))) gp_wsX100) gp_wsX60) gp_wsX50) gp_wsX30))
set_option maxRecDepth 100000 in
theorem gp_wsX11_buoy_o : GoodIn lw_tbl wsX11_buoy_o := by unfold wsX11_buoy_o; exact (gi_cons dw_476 (gi_cons dw_474 (gi_cons dw_567 (gi_cons dw_566 (gi_cons dw_565 (gi_cons dw_16 (gi_cons dw_625 (gi_cons dw_624 (gi_cons dw_564 (gi_cons dw_563 (gi_cons dw_562 (gi_cons dw_713 (gi_cons dw_712 (gi_cons dw_711 gi_nil))))))))))))))
set_option maxRecDepth 100000 in
theorem gp_wsX11_buoy : GoodIn lw_tbl wsX11_buoy := by unfold wsX11_buoy; exact (gi_cons dw_758 (goodIn_app (goodIn_app gp_wsX11_buoy_o (goodIn_app gp_wsX11_isWave (goodIn_app gp_wsX11_isThing (goodIn_app gp_wsX11_copies gp_wsX11_records)))) gp_wsX110))
set_option maxRecDepth 100000 in
theorem gp_wsX10_fetch_o : GoodIn lw_tbl wsX10_fetch_o := by unfold wsX10_fetch_o; exact (gi_cons dw_50 (gi_cons dw_49 (gi_cons dw_48 (gi_cons dw_636 (gi_cons dw_43 (gi_cons dw_635 (gi_cons dw_682 (gi_cons dw_36 (gi_cons dw_681 gi_nil)))))))))
set_option maxRecDepth 100000 in
theorem gp_wsX10_fetch : GoodIn lw_tbl wsX10_fetch := by unfold wsX10_fetch; exact (gi_cons dw_762 (goodIn_app (goodIn_app (goodIn_app (goodIn_app (goodIn_app gp_wsX10_fetch_o (goodIn_app gp_wsX5_hasParty gp_wsX3_remember)) gp_wsX100) gp_wsX60) gp_wsX50) gp_wsX30))
set_option maxRecDepth 100000 in
theorem gp_wsX11_fetch_o : GoodIn lw_tbl wsX11_fetch_o := by unfold wsX11_fetch_o; exact (gi_cons dw_476 (gi_cons dw_474 (gi_cons dw_656 (gi_cons dw_655 (gi_cons dw_654 (gi_cons dw_16 (gi_cons dw_564 (gi_cons dw_563 (gi_cons dw_562 (gi_cons dw_713 (gi_cons dw_712 (gi_cons dw_711 gi_nil))))))))))))
set_option maxRecDepth 100000 in
theorem gp_wsX11_fetch : GoodIn lw_tbl wsX11_fetch := by unfold wsX11_fetch; exact (gi_cons dw_766 (goodIn_app (goodIn_app gp_wsX11_fetch_o (goodIn_app gp_wsX11_isParty (goodIn_app gp_wsX11_copies gp_wsX11_records))) gp_wsX110))
set_option maxRecDepth 100000 in
theorem gp_wsX10_years_o : GoodIn lw_tbl wsX10_years_o := by unfold wsX10_years_o; exact (gi_cons dw_48 (gi_cons dw_49 (gi_cons dw_498 (gi_cons dw_682 (gi_cons dw_36 (gi_cons dw_681 (gi_cons dw_772 (gi_cons dw_494 (gi_cons dw_771 gi_nil)))))))))
set_option maxRecDepth 100000 in
theorem gp_wsX0_passYears_o : GoodIn lw_tbl wsX0_passYears_o := by unfold wsX0_passYears_o; exact (gi_cons dw_501 (gi_cons dw_776 (gi_cons dw_775 (gi_cons dw_774 (gi_cons dw_494 gi_nil)))))
set_option maxRecDepth 100000 in
theorem gp_wsX0_passYearOver_o : GoodIn lw_tbl wsX0_passYearOver_o := by unfold wsX0_passYearOver_o; exact (gi_cons dw_501 (gi_cons dw_779 (gi_cons dw_506 (gi_cons dw_11 (gi_cons dw_778 (gi_cons dw_490 (gi_cons dw_489 (gi_cons dw_494 gi_nil))))))))
set_option maxRecDepth 100000 in
theorem gp_wsX0_passYearOver : GoodIn lw_tbl wsX0_passYearOver := by unfold wsX0_passYearOver; exact (gi_cons dw_777 (goodIn_app (goodIn_app (goodIn_app (goodIn_app (goodIn_app gp_wsX0_passYearOver_o (goodIn_app gp_wsX10_lot gp_wsX0_shiftsOf)) gp_wsX00) gp_wsX50) gp_wsX60) gp_wsX10))
set_option maxRecDepth 100000 in
theorem gp_wsX0_passYears : GoodIn lw_tbl wsX0_passYears := by unfold wsX0_passYears; exact (gi_cons dw_773 (goodIn_app (goodIn_app (goodIn_app (goodIn_app (goodIn_app gp_wsX0_passYears_o gp_wsX0_passYearOver) gp_wsX00) gp_wsX50) gp_wsX60) gp_wsX10))
set_option maxRecDepth 100000 in
theorem gp_wsX10_years : GoodIn lw_tbl wsX10_years := by unfold wsX10_years; exact (gi_cons dw_770 (goodIn_app (goodIn_app (goodIn_app (goodIn_app (goodIn_app (goodIn_app (goodIn_app gp_wsX10_years_o (goodIn_app gp_wsX3_remember gp_wsX0_passYears)) gp_wsX100) gp_wsX60) gp_wsX30) gp_wsX00) gp_wsX50) gp_wsX10))
set_option maxRecDepth 100000 in
theorem gp_wsX11_years_o : GoodIn lw_tbl wsX11_years_o := by unfold wsX11_years_o; exact (gi_cons dw_476 (gi_cons dw_788 (gi_cons dw_787 (gi_cons dw_16 (gi_cons dw_564 (gi_cons dw_563 (gi_cons dw_562 (gi_cons dw_786 (gi_cons dw_785 (gi_cons dw_784 (gi_cons dw_713 (gi_cons dw_712 (gi_cons dw_711 gi_nil)))))))))))))
set_option maxRecDepth 100000 in
theorem gp_wsX11_isLong_o : GoodIn lw_tbl wsX11_isLong_o := by unfold wsX11_isLong_o; exact (gi_cons dw_570 (gi_cons dw_569 (gi_cons dw_16 gi_nil)))
set_option maxRecDepth 100000 in
theorem gp_wsX11_isLong : GoodIn lw_tbl wsX11_isLong := by unfold wsX11_isLong; exact (gi_cons dw_789 (goodIn_app gp_wsX11_isLong_o gp_wsX11_in))
set_option maxRecDepth 100000 in
theorem gp_wsX11_yearsGo_o : GoodIn lw_tbl wsX11_yearsGo_o := by unfold wsX11_yearsGo_o; exact (gi_cons dw_793 (gi_cons dw_792 (gi_cons dw_791 (gi_cons dw_16 gi_nil))))
set_option maxRecDepth 100000 in
theorem gp_wsX11_yearGoes_o : GoodIn lw_tbl wsX11_yearGoes_o := by unfold wsX11_yearGoes_o; exact (gi_cons dw_399 (gi_cons dw_358 (gi_cons dw_796 (gi_cons dw_474 (gi_cons dw_795 (gi_cons dw_581 (gi_cons dw_580 (gi_cons dw_579 (gi_cons dw_16 (gi_cons dw_555 (gi_cons dw_554 (gi_cons dw_553 gi_nil))))))))))))
set_option maxRecDepth 100000 in
theorem gp_wsX11_yearGoes : GoodIn lw_tbl wsX11_yearGoes := by unfold wsX11_yearGoes; exact (gi_cons dw_794 (goodIn_app (goodIn_app gp_wsX11_yearGoes_o (goodIn_app gp_wsX11_lotOf gp_wsX11_shiftsOf)) gp_wsX110))
set_option maxRecDepth 100000 in
theorem gp_wsX11_yearsGo : GoodIn lw_tbl wsX11_yearsGo := by unfold wsX11_yearsGo; exact (gi_cons dw_790 (goodIn_app (goodIn_app gp_wsX11_yearsGo_o gp_wsX11_yearGoes) gp_wsX110))
set_option maxRecDepth 100000 in
theorem gp_wsX11_years : GoodIn lw_tbl wsX11_years := by unfold wsX11_years; exact (gi_cons dw_783 (goodIn_app (goodIn_app gp_wsX11_years_o (goodIn_app gp_wsX11_isLong (goodIn_app gp_wsX11_copies (goodIn_app gp_wsX11_yearsGo gp_wsX11_records)))) gp_wsX110))
set_option maxRecDepth 100000 in
theorem gp_wsX10_undo_o : GoodIn lw_tbl wsX10_undo_o := by unfold wsX10_undo_o; exact (gi_cons dw_48 (gi_cons dw_49 (gi_cons dw_802 (gi_cons dw_36 (gi_cons dw_801 gi_nil)))))
set_option maxRecDepth 100000 in
theorem gp_wsX3_takeBack_o : GoodIn lw_tbl wsX3_takeBack_o := by unfold wsX3_takeBack_o; exact (gi_cons dw_326 (gi_cons dw_694 (gi_cons dw_693 (gi_cons dw_692 (gi_cons dw_39 (gi_cons dw_691 gi_nil))))))
set_option maxRecDepth 100000 in
theorem gp_wsX3_takeBack : GoodIn lw_tbl wsX3_takeBack := by unfold wsX3_takeBack; exact (gi_cons dw_803 (goodIn_app (goodIn_app (goodIn_app gp_wsX3_takeBack_o gp_wsX6_copyFrom) gp_wsX30) gp_wsX60))
set_option maxRecDepth 100000 in
theorem gp_wsX10_undo : GoodIn lw_tbl wsX10_undo := by unfold wsX10_undo; exact (gi_cons dw_800 (goodIn_app (goodIn_app (goodIn_app (goodIn_app gp_wsX10_undo_o gp_wsX3_takeBack) gp_wsX100) gp_wsX30) gp_wsX60))
set_option maxRecDepth 100000 in
theorem gp_wsX11_undo : GoodIn lw_tbl wsX11_undo := by unfold wsX11_undo; exact (gi_cons dw_807 (goodIn_app (gi_cons dw_351 (gi_cons dw_476 (gi_cons dw_747 gi_nil))) gp_wsX110))
set_option maxRecDepth 100000 in
theorem gp_wsX10_cases_o : GoodIn lw_tbl wsX10_cases_o := by unfold wsX10_cases_o; exact (gi_cons dw_815 (gi_cons dw_49 (gi_cons dw_814 (gi_cons dw_813 (gi_cons dw_812 gi_nil)))))
set_option maxRecDepth 100000 in
theorem gp_wsX2_caseCount_o : GoodIn lw_tbl wsX2_caseCount_o := by unfold wsX2_caseCount_o; exact (gi_cons dw_820 (gi_cons dw_819 (gi_cons dw_818 (gi_cons dw_817 (gi_cons dw_813 gi_nil)))))
set_option maxRecDepth 100000 in
theorem gp_wsX2_mayCount_o : GoodIn lw_tbl wsX2_mayCount_o := by unfold wsX2_mayCount_o; exact (gi_cons dw_823 (gi_cons dw_495 (gi_cons dw_494 (gi_cons dw_493 (gi_cons dw_822 (gi_cons dw_527 (gi_cons dw_526 gi_nil)))))))
set_option maxRecDepth 100000 in
theorem gp_wsX20 : GoodIn lw_tbl wsX20 := goodIn_r _ [555, 557, 559, 561, 563, 565] (by decide +kernel) (by decide +kernel)
set_option maxRecDepth 100000 in
theorem gp_wsX2_mayCount : GoodIn lw_tbl wsX2_mayCount := by unfold wsX2_mayCount; exact (gi_cons dw_821 (goodIn_app (goodIn_app (goodIn_app (goodIn_app (goodIn_app gp_wsX2_mayCount_o (goodIn_app gp_wsX0_mayBe gp_wsJ6_bitCount_0f7a4)) gp_wsX20) gp_wsX60) gp_wsX00) gp_wsX50))
set_option maxRecDepth 100000 in
theorem gp_wsX2_caseCount : GoodIn lw_tbl wsX2_caseCount := by unfold wsX2_caseCount; exact (gi_cons dw_816 (goodIn_app (goodIn_app (goodIn_app (goodIn_app (goodIn_app gp_wsX2_caseCount_o gp_wsX2_mayCount) gp_wsX20) gp_wsX50) gp_wsX60) gp_wsX00))
set_option maxRecDepth 100000 in
theorem gp_wsX10_cases : GoodIn lw_tbl wsX10_cases := by unfold wsX10_cases; exact (gi_cons dw_811 (goodIn_app (goodIn_app (goodIn_app (goodIn_app (goodIn_app (goodIn_app gp_wsX10_cases_o gp_wsX2_caseCount) gp_wsX100) gp_wsX20) gp_wsX50) gp_wsX60) gp_wsX00))
set_option maxRecDepth 100000 in
theorem gp_wsX11_cases_o : GoodIn lw_tbl wsX11_cases_o := by unfold wsX11_cases_o; exact (gi_cons dw_564 (gi_cons dw_563 (gi_cons dw_562 (gi_cons dw_16 (gi_cons dw_830 (gi_cons dw_829 (gi_cons dw_828 gi_nil)))))))
set_option maxRecDepth 100000 in
theorem gp_wsX11_casesNow_o : GoodIn lw_tbl wsX11_casesNow_o := by unfold wsX11_casesNow_o; exact (gi_cons dw_399 (gi_cons dw_358 (gi_cons dw_561 (gi_cons dw_560 (gi_cons dw_559 (gi_cons dw_16 (gi_cons dw_603 (gi_cons dw_602 gi_nil))))))))
set_option maxRecDepth 100000 in
theorem gp_wsX11_casesNow : GoodIn lw_tbl wsX11_casesNow := by unfold wsX11_casesNow; exact (gi_cons dw_831 (goodIn_app (goodIn_app gp_wsX11_casesNow_o (goodIn_app gp_wsX11_mayAt gp_wsX11_bits)) gp_wsX110))
set_option maxRecDepth 100000 in
theorem gp_wsX11_cases : GoodIn lw_tbl wsX11_cases := by unfold wsX11_cases; exact (gi_cons dw_827 (goodIn_app (goodIn_app gp_wsX11_cases_o (goodIn_app gp_wsX11_copies gp_wsX11_casesNow)) gp_wsX110))
set_option maxRecDepth 100000 in
theorem gp_wsX10_chance_o : GoodIn lw_tbl wsX10_chance_o := by unfold wsX10_chance_o; exact (gi_cons dw_50 (gi_cons dw_815 (gi_cons dw_49 (gi_cons dw_684 (gi_cons dw_43 (gi_cons dw_683 (gi_cons dw_837 (gi_cons dw_813 (gi_cons dw_836 gi_nil)))))))))
set_option maxRecDepth 100000 in
theorem gp_wsX2_oddsOf_o : GoodIn lw_tbl wsX2_oddsOf_o := by unfold wsX2_oddsOf_o; exact (gi_cons dw_820 (gi_cons dw_702 (gi_cons dw_11 (gi_cons dw_841 (gi_cons dw_840 (gi_cons dw_839 (gi_cons dw_813 gi_nil)))))))
set_option maxRecDepth 100000 in
theorem gp_wsX2_oddsIfMay_o : GoodIn lw_tbl wsX2_oddsIfMay_o := by unfold wsX2_oddsIfMay_o; exact (gi_cons dw_823 (gi_cons dw_820 (gi_cons dw_495 (gi_cons dw_494 (gi_cons dw_493 (gi_cons dw_752 (gi_cons dw_11 (gi_cons dw_295 (gi_cons dw_43 (gi_cons dw_294 gi_nil))))))))))
set_option maxRecDepth 100000 in
theorem gp_wsX2_oddsIfMay : GoodIn lw_tbl wsX2_oddsIfMay := by unfold wsX2_oddsIfMay; exact (gi_cons dw_842 (goodIn_app (goodIn_app (goodIn_app (goodIn_app (goodIn_app gp_wsX2_oddsIfMay_o (goodIn_app gp_wsX0_mayBe (goodIn_app gp_wsX10_has gp_wsX5_oddsAt))) gp_wsX20) gp_wsX60) gp_wsX00) gp_wsX50))
set_option maxRecDepth 100000 in
theorem gp_wsX2_oddsOf : GoodIn lw_tbl wsX2_oddsOf := by unfold wsX2_oddsOf; exact (gi_cons dw_838 (goodIn_app (goodIn_app (goodIn_app (goodIn_app (goodIn_app gp_wsX2_oddsOf_o (goodIn_app gp_wsX10_thingIn gp_wsX2_oddsIfMay)) gp_wsX20) gp_wsX50) gp_wsX60) gp_wsX00))
set_option maxRecDepth 100000 in
theorem gp_wsX10_chance : GoodIn lw_tbl wsX10_chance := by unfold wsX10_chance; exact (gi_cons dw_835 (goodIn_app (goodIn_app (goodIn_app (goodIn_app (goodIn_app (goodIn_app gp_wsX10_chance_o (goodIn_app gp_wsX5_hasGuess gp_wsX2_oddsOf)) gp_wsX100) gp_wsX50) gp_wsX20) gp_wsX60) gp_wsX00))
set_option maxRecDepth 100000 in
theorem gp_wsX11_chance_o : GoodIn lw_tbl wsX11_chance_o := by unfold wsX11_chance_o; exact (gi_cons dw_722 (gi_cons dw_721 (gi_cons dw_720 (gi_cons dw_16 (gi_cons dw_564 (gi_cons dw_563 (gi_cons dw_562 (gi_cons dw_849 (gi_cons dw_848 (gi_cons dw_847 gi_nil))))))))))
set_option maxRecDepth 100000 in
theorem gp_wsX11_chanceOf_o : GoodIn lw_tbl wsX11_chanceOf_o := by unfold wsX11_chanceOf_o; exact (gi_cons dw_399 (gi_cons dw_358 (gi_cons dw_736 (gi_cons dw_735 (gi_cons dw_734 (gi_cons dw_16 (gi_cons dw_853 (gi_cons dw_852 (gi_cons dw_851 (gi_cons dw_576 (gi_cons dw_575 (gi_cons dw_574 gi_nil))))))))))))
set_option maxRecDepth 100000 in
theorem gp_wsX11_mayBe_o : GoodIn lw_tbl wsX11_mayBe_o := by unfold wsX11_mayBe_o; exact (gi_cons dw_561 (gi_cons dw_560 (gi_cons dw_559 (gi_cons dw_16 gi_nil))))
set_option maxRecDepth 100000 in
theorem gp_wsX11_mayBe : GoodIn lw_tbl wsX11_mayBe := by unfold wsX11_mayBe; exact (gi_cons dw_854 (goodIn_app (goodIn_app gp_wsX11_mayBe_o gp_wsX11_mayAt) gp_wsX110))
set_option maxRecDepth 100000 in
theorem gp_wsX11_chanceOf : GoodIn lw_tbl wsX11_chanceOf := by unfold wsX11_chanceOf; exact (gi_cons dw_850 (goodIn_app (goodIn_app gp_wsX11_chanceOf_o (goodIn_app gp_wsX11_thingAt (goodIn_app gp_wsX11_mayBe gp_wsX11_oddsAt))) gp_wsX110))
set_option maxRecDepth 100000 in
theorem gp_wsX11_chance : GoodIn lw_tbl wsX11_chance := by unfold wsX11_chance; exact (gi_cons dw_846 (goodIn_app (goodIn_app gp_wsX11_chance_o (goodIn_app gp_wsX11_isGuess (goodIn_app gp_wsX11_copies gp_wsX11_chanceOf))) gp_wsX110))
set_option maxRecDepth 100000 in
theorem gp_wsX10_all_o : GoodIn lw_tbl wsX10_all_o := by unfold wsX10_all_o; exact (gi_cons dw_815 (gi_cons dw_49 (gi_cons dw_860 (gi_cons dw_813 (gi_cons dw_859 gi_nil)))))
set_option maxRecDepth 100000 in
theorem gp_wsX2_oddsOfAll_o : GoodIn lw_tbl wsX2_oddsOfAll_o := by unfold wsX2_oddsOfAll_o; exact (gi_cons dw_820 (gi_cons dw_841 (gi_cons dw_840 (gi_cons dw_839 (gi_cons dw_813 gi_nil)))))
set_option maxRecDepth 100000 in
theorem gp_wsX2_oddsOfAll : GoodIn lw_tbl wsX2_oddsOfAll := by unfold wsX2_oddsOfAll; exact (gi_cons dw_861 (goodIn_app (goodIn_app (goodIn_app (goodIn_app (goodIn_app gp_wsX2_oddsOfAll_o gp_wsX2_oddsIfMay) gp_wsX20) gp_wsX50) gp_wsX60) gp_wsX00))
set_option maxRecDepth 100000 in
theorem gp_wsX10_all : GoodIn lw_tbl wsX10_all := by unfold wsX10_all; exact (gi_cons dw_858 (goodIn_app (goodIn_app (goodIn_app (goodIn_app (goodIn_app (goodIn_app gp_wsX10_all_o gp_wsX2_oddsOfAll) gp_wsX100) gp_wsX20) gp_wsX50) gp_wsX60) gp_wsX00))
set_option maxRecDepth 100000 in
theorem gp_wsX11_all_o : GoodIn lw_tbl wsX11_all_o := by unfold wsX11_all_o; exact (gi_cons dw_399 (gi_cons dw_358 (gi_cons dw_564 (gi_cons dw_563 (gi_cons dw_562 (gi_cons dw_16 (gi_cons dw_868 (gi_cons dw_867 (gi_cons dw_866 gi_nil)))))))))
set_option maxRecDepth 100000 in
theorem gp_wsX11_sumAt_o : GoodIn lw_tbl wsX11_sumAt_o := by unfold wsX11_sumAt_o; exact (gi_cons dw_853 (gi_cons dw_852 (gi_cons dw_851 (gi_cons dw_16 (gi_cons dw_576 (gi_cons dw_575 (gi_cons dw_574 gi_nil)))))))
set_option maxRecDepth 100000 in
theorem gp_wsX11_sumAt : GoodIn lw_tbl wsX11_sumAt := by unfold wsX11_sumAt; exact (gi_cons dw_869 (goodIn_app (goodIn_app gp_wsX11_sumAt_o (goodIn_app gp_wsX11_mayBe gp_wsX11_oddsAt)) gp_wsX110))
set_option maxRecDepth 100000 in
theorem gp_wsX11_all : GoodIn lw_tbl wsX11_all := by unfold wsX11_all; exact (gi_cons dw_865 (goodIn_app (goodIn_app gp_wsX11_all_o (goodIn_app gp_wsX11_copies gp_wsX11_sumAt)) gp_wsX110))
set_option maxRecDepth 100000 in
theorem gp_wsX10_likeliest_o : GoodIn lw_tbl wsX10_likeliest_o := by unfold wsX10_likeliest_o; exact (gi_cons dw_815 (gi_cons dw_49 (gi_cons dw_875 (gi_cons dw_813 (gi_cons dw_874 gi_nil)))))
set_option maxRecDepth 100000 in
theorem gp_wsX2_bestGuess_o : GoodIn lw_tbl wsX2_bestGuess_o := by unfold wsX2_bestGuess_o; exact (gi_cons dw_820 (gi_cons dw_879 (gi_cons dw_878 (gi_cons dw_877 (gi_cons dw_813 gi_nil)))))
set_option maxRecDepth 100000 in
theorem gp_wsX2_bestThing_o : GoodIn lw_tbl wsX2_bestThing_o := by unfold wsX2_bestThing_o; exact (gi_cons dw_823 (gi_cons dw_841 (gi_cons dw_840 (gi_cons dw_839 (gi_cons dw_813 (gi_cons dw_494 (gi_cons dw_665 (gi_cons dw_664 gi_nil))))))))
set_option maxRecDepth 100000 in
theorem gp_wsX2_bestThing : GoodIn lw_tbl wsX2_bestThing := by unfold wsX2_bestThing; exact (gi_cons dw_880 (goodIn_app (goodIn_app (goodIn_app (goodIn_app (goodIn_app (goodIn_app gp_wsX2_bestThing_o (goodIn_app gp_wsX2_oddsIfMay gp_wsX0_needOf)) gp_wsX20) gp_wsX60) gp_wsX00) gp_wsX50) gp_wsX10))
set_option maxRecDepth 100000 in
theorem gp_wsX2_bestGuess : GoodIn lw_tbl wsX2_bestGuess := by unfold wsX2_bestGuess; exact (gi_cons dw_876 (goodIn_app (goodIn_app (goodIn_app (goodIn_app (goodIn_app (goodIn_app gp_wsX2_bestGuess_o gp_wsX2_bestThing) gp_wsX20) gp_wsX50) gp_wsX60) gp_wsX00) gp_wsX10))
set_option maxRecDepth 100000 in
theorem gp_wsX10_likeliest : GoodIn lw_tbl wsX10_likeliest := by unfold wsX10_likeliest; exact (gi_cons dw_873 (goodIn_app (goodIn_app (goodIn_app (goodIn_app (goodIn_app (goodIn_app (goodIn_app gp_wsX10_likeliest_o gp_wsX2_bestGuess) gp_wsX100) gp_wsX20) gp_wsX50) gp_wsX60) gp_wsX00) gp_wsX10))
set_option maxRecDepth 100000 in
theorem gp_wsX11_likeliest_o : GoodIn lw_tbl wsX11_likeliest_o := by unfold wsX11_likeliest_o; exact (gi_cons dw_564 (gi_cons dw_563 (gi_cons dw_562 (gi_cons dw_16 (gi_cons dw_887 (gi_cons dw_886 (gi_cons dw_885 gi_nil)))))))
set_option maxRecDepth 100000 in
theorem gp_wsX11_bestFor_o : GoodIn lw_tbl wsX11_bestFor_o := by unfold wsX11_bestFor_o; exact (gi_cons dw_399 (gi_cons dw_358 (gi_cons dw_473 (gi_cons dw_853 (gi_cons dw_852 (gi_cons dw_851 (gi_cons dw_16 (gi_cons dw_576 (gi_cons dw_575 (gi_cons dw_574 (gi_cons dw_743 (gi_cons dw_742 (gi_cons dw_741 gi_nil)))))))))))))
set_option maxRecDepth 100000 in
theorem gp_wsX11_bestFor : GoodIn lw_tbl wsX11_bestFor := by unfold wsX11_bestFor; exact (gi_cons dw_888 (goodIn_app (goodIn_app gp_wsX11_bestFor_o (goodIn_app gp_wsX11_mayBe (goodIn_app gp_wsX11_doesBear gp_wsX11_oddsAt))) gp_wsX110))
set_option maxRecDepth 100000 in
theorem gp_wsX11_likeliest : GoodIn lw_tbl wsX11_likeliest := by unfold wsX11_likeliest; exact (gi_cons dw_884 (goodIn_app (goodIn_app gp_wsX11_likeliest_o (goodIn_app gp_wsX11_copies gp_wsX11_bestFor)) gp_wsX110))
set_option maxRecDepth 100000 in
theorem gp_wsX10_bears_o : GoodIn lw_tbl wsX10_bears_o := by unfold wsX10_bears_o; exact (gi_cons dw_50 (gi_cons dw_815 (gi_cons dw_49 (gi_cons dw_636 (gi_cons dw_43 (gi_cons dw_635 (gi_cons dw_684 (gi_cons dw_683 (gi_cons dw_894 (gi_cons dw_813 (gi_cons dw_893 gi_nil)))))))))))
set_option maxRecDepth 100000 in
theorem gp_wsX2_borneOver_o : GoodIn lw_tbl wsX2_borneOver_o := by unfold wsX2_borneOver_o; exact (gi_cons dw_820 (gi_cons dw_823 (gi_cons dw_702 (gi_cons dw_11 (gi_cons dw_700 (gi_cons dw_494 (gi_cons dw_699 gi_nil)))))))
set_option maxRecDepth 100000 in
theorem gp_wsX2_borneOver : GoodIn lw_tbl wsX2_borneOver := by unfold wsX2_borneOver; exact (gi_cons dw_895 (goodIn_app (goodIn_app (goodIn_app (goodIn_app (goodIn_app (goodIn_app gp_wsX2_borneOver_o (goodIn_app gp_wsX10_thingIn gp_wsX0_isBearing)) gp_wsX20) gp_wsX50) gp_wsX00) gp_wsX60) gp_wsX10))
set_option maxRecDepth 100000 in
theorem gp_wsX10_bears : GoodIn lw_tbl wsX10_bears := by unfold wsX10_bears; exact (gi_cons dw_892 (goodIn_app (goodIn_app (goodIn_app (goodIn_app (goodIn_app (goodIn_app (goodIn_app gp_wsX10_bears_o (goodIn_app gp_wsX5_hasParty (goodIn_app gp_wsX5_hasGuess gp_wsX2_borneOver))) gp_wsX100) gp_wsX50) gp_wsX20) gp_wsX00) gp_wsX60) gp_wsX10))
set_option maxRecDepth 100000 in
theorem gp_wsX11_bears_o : GoodIn lw_tbl wsX11_bears_o := by unfold wsX11_bears_o; exact (gi_cons dw_656 (gi_cons dw_655 (gi_cons dw_654 (gi_cons dw_16 (gi_cons dw_722 (gi_cons dw_721 (gi_cons dw_720 (gi_cons dw_564 (gi_cons dw_563 (gi_cons dw_562 (gi_cons dw_739 (gi_cons dw_738 (gi_cons dw_737 gi_nil)))))))))))))
set_option maxRecDepth 100000 in
theorem gp_wsX11_bears : GoodIn lw_tbl wsX11_bears := by unfold wsX11_bears; exact (gi_cons dw_899 (goodIn_app (goodIn_app gp_wsX11_bears_o (goodIn_app gp_wsX11_isParty (goodIn_app gp_wsX11_isGuess (goodIn_app gp_wsX11_copies gp_wsX11_bearsBy)))) gp_wsX110))
set_option maxRecDepth 100000 in
theorem gp_wsX10_safest_o : GoodIn lw_tbl wsX10_safest_o := by unfold wsX10_safest_o; exact (gi_cons dw_50 (gi_cons dw_815 (gi_cons dw_49 (gi_cons dw_636 (gi_cons dw_43 (gi_cons dw_635 (gi_cons dw_875 (gi_cons dw_813 (gi_cons dw_874 gi_nil)))))))))
set_option maxRecDepth 100000 in
theorem gp_wsX10_safest : GoodIn lw_tbl wsX10_safest := by unfold wsX10_safest; exact (gi_cons dw_903 (goodIn_app (goodIn_app (goodIn_app (goodIn_app (goodIn_app (goodIn_app (goodIn_app gp_wsX10_safest_o (goodIn_app gp_wsX5_hasParty gp_wsX2_bestGuess)) gp_wsX100) gp_wsX50) gp_wsX20) gp_wsX60) gp_wsX00) gp_wsX10))
set_option maxRecDepth 100000 in
theorem gp_wsX11_safest_o : GoodIn lw_tbl wsX11_safest_o := by unfold wsX11_safest_o; exact (gi_cons dw_656 (gi_cons dw_655 (gi_cons dw_654 (gi_cons dw_16 (gi_cons dw_564 (gi_cons dw_563 (gi_cons dw_562 (gi_cons dw_887 (gi_cons dw_886 (gi_cons dw_885 gi_nil))))))))))
set_option maxRecDepth 100000 in
theorem gp_wsX11_safest : GoodIn lw_tbl wsX11_safest := by unfold wsX11_safest; exact (gi_cons dw_907 (goodIn_app (goodIn_app gp_wsX11_safest_o (goodIn_app gp_wsX11_isParty (goodIn_app gp_wsX11_copies gp_wsX11_bestFor))) gp_wsX110))
set_option maxRecDepth 100000 in
theorem gp_wsX10_enough_o : GoodIn lw_tbl wsX10_enough_o := by unfold wsX10_enough_o; exact (gi_cons dw_815 (gi_cons dw_49 (gi_cons dw_814 (gi_cons dw_813 (gi_cons dw_812 (gi_cons dw_913 (gi_cons dw_912 gi_nil)))))))
set_option maxRecDepth 100000 in
theorem gp_wsX2_goesAtMost_o : GoodIn lw_tbl wsX2_goesAtMost_o := by unfold wsX2_goesAtMost_o; exact (gi_cons dw_820 (gi_cons dw_819 (gi_cons dw_818 (gi_cons dw_817 (gi_cons dw_813 gi_nil)))))
set_option maxRecDepth 100000 in
theorem gp_wsX2_goesAtMost : GoodIn lw_tbl wsX2_goesAtMost := by unfold wsX2_goesAtMost; exact (gi_cons dw_914 (goodIn_app (goodIn_app (goodIn_app (goodIn_app (goodIn_app gp_wsX2_goesAtMost_o gp_wsX2_mayCount) gp_wsX20) gp_wsX50) gp_wsX60) gp_wsX00))
set_option maxRecDepth 100000 in
theorem gp_wsX10_enough : GoodIn lw_tbl wsX10_enough := by unfold wsX10_enough; exact (gi_cons dw_911 (goodIn_app (goodIn_app (goodIn_app (goodIn_app (goodIn_app (goodIn_app gp_wsX10_enough_o (goodIn_app gp_wsX2_caseCount gp_wsX2_goesAtMost)) gp_wsX100) gp_wsX20) gp_wsX50) gp_wsX60) gp_wsX00))
set_option maxRecDepth 100000 in
theorem gp_wsX11_enough_o : GoodIn lw_tbl wsX11_enough_o := by unfold wsX11_enough_o; exact (gi_cons dw_399 (gi_cons dw_358 (gi_cons dw_564 (gi_cons dw_563 (gi_cons dw_562 (gi_cons dw_16 (gi_cons dw_830 (gi_cons dw_829 (gi_cons dw_828 (gi_cons dw_561 (gi_cons dw_560 (gi_cons dw_559 (gi_cons dw_603 (gi_cons dw_602 gi_nil))))))))))))))
set_option maxRecDepth 100000 in
theorem gp_wsX11_enough : GoodIn lw_tbl wsX11_enough := by unfold wsX11_enough; exact (gi_cons dw_918 (goodIn_app (goodIn_app gp_wsX11_enough_o (goodIn_app gp_wsX11_copies (goodIn_app gp_wsX11_casesNow (goodIn_app gp_wsX11_mayAt gp_wsX11_bits)))) gp_wsX110))
set_option maxRecDepth 100000 in
theorem gp_wsX10_left_o : GoodIn lw_tbl wsX10_left_o := by unfold wsX10_left_o; exact (gi_cons dw_50 (gi_cons dw_815 (gi_cons dw_49 (gi_cons dw_684 (gi_cons dw_43 (gi_cons dw_683 (gi_cons dw_814 (gi_cons dw_813 (gi_cons dw_812 (gi_cons dw_924 (gi_cons dw_923 gi_nil)))))))))))
set_option maxRecDepth 100000 in
theorem gp_wsX2_leftBehind_o : GoodIn lw_tbl wsX2_leftBehind_o := by unfold wsX2_leftBehind_o; exact (gi_cons dw_820 (gi_cons dw_823 (gi_cons dw_926 (gi_cons dw_192 (gi_cons dw_133 (gi_cons dw_191 (gi_cons dw_819 (gi_cons dw_818 (gi_cons dw_817 (gi_cons dw_813 (gi_cons dw_495 (gi_cons dw_494 (gi_cons dw_493 (gi_cons dw_702 (gi_cons dw_11 (gi_cons dw_752 gi_nil))))))))))))))))
set_option maxRecDepth 100000 in
theorem gp_wsX2_leftBehind : GoodIn lw_tbl wsX2_leftBehind := by unfold wsX2_leftBehind; exact (gi_cons dw_925 (goodIn_app (goodIn_app (goodIn_app (goodIn_app (goodIn_app gp_wsX2_leftBehind_o (goodIn_app gp_wsX2_mayCount (goodIn_app gp_wsX0_mayBe (goodIn_app gp_wsX10_thingIn gp_wsX10_has)))) gp_wsX20) gp_wsX50) gp_wsX60) gp_wsX00))
set_option maxRecDepth 100000 in
theorem gp_wsX10_left : GoodIn lw_tbl wsX10_left := by unfold wsX10_left; exact (gi_cons dw_922 (goodIn_app (goodIn_app (goodIn_app (goodIn_app (goodIn_app (goodIn_app gp_wsX10_left_o (goodIn_app gp_wsX5_hasGuess (goodIn_app gp_wsX2_caseCount gp_wsX2_leftBehind))) gp_wsX100) gp_wsX50) gp_wsX20) gp_wsX60) gp_wsX00))
set_option maxRecDepth 100000 in
theorem gp_wsX11_left_o : GoodIn lw_tbl wsX11_left_o := by unfold wsX11_left_o; exact (gi_cons dw_722 (gi_cons dw_721 (gi_cons dw_720 (gi_cons dw_16 (gi_cons dw_564 (gi_cons dw_563 (gi_cons dw_562 (gi_cons dw_830 (gi_cons dw_829 (gi_cons dw_828 (gi_cons dw_933 (gi_cons dw_932 (gi_cons dw_931 gi_nil)))))))))))))
set_option maxRecDepth 100000 in
theorem gp_wsX11_leftOf_o : GoodIn lw_tbl wsX11_leftOf_o := by unfold wsX11_leftOf_o; exact (gi_cons dw_399 (gi_cons dw_358 (gi_cons dw_830 (gi_cons dw_829 (gi_cons dw_828 (gi_cons dw_16 (gi_cons dw_561 (gi_cons dw_560 (gi_cons dw_559 (gi_cons dw_603 (gi_cons dw_602 (gi_cons dw_736 (gi_cons dw_735 (gi_cons dw_734 gi_nil))))))))))))))
set_option maxRecDepth 100000 in
theorem gp_wsX11_leftOf : GoodIn lw_tbl wsX11_leftOf := by unfold wsX11_leftOf; exact (gi_cons dw_934 (goodIn_app (goodIn_app gp_wsX11_leftOf_o (goodIn_app gp_wsX11_casesNow (goodIn_app gp_wsX11_mayAt (goodIn_app gp_wsX11_bits gp_wsX11_thingAt)))) gp_wsX110))
set_option maxRecDepth 100000 in
theorem gp_wsX11_left : GoodIn lw_tbl wsX11_left := by unfold wsX11_left; exact (gi_cons dw_930 (goodIn_app (goodIn_app gp_wsX11_left_o (goodIn_app gp_wsX11_isGuess (goodIn_app gp_wsX11_copies (goodIn_app gp_wsX11_casesNow gp_wsX11_leftOf)))) gp_wsX110))
set_option maxRecDepth 100000 in
theorem gp_wsX10_wisest_o : GoodIn lw_tbl wsX10_wisest_o := by unfold wsX10_wisest_o; exact (gi_cons dw_815 (gi_cons dw_49 (gi_cons dw_814 (gi_cons dw_813 (gi_cons dw_812 (gi_cons dw_940 (gi_cons dw_939 (gi_cons dw_924 (gi_cons dw_923 gi_nil)))))))))
set_option maxRecDepth 100000 in
theorem gp_wsX2_wisestGuess_o : GoodIn lw_tbl wsX2_wisestGuess_o := by unfold wsX2_wisestGuess_o; exact (gi_cons dw_820 (gi_cons dw_823 (gi_cons dw_495 (gi_cons dw_494 (gi_cons dw_493 (gi_cons dw_943 (gi_cons dw_942 (gi_cons dw_526 (gi_cons dw_819 (gi_cons dw_818 (gi_cons dw_817 (gi_cons dw_813 gi_nil))))))))))))
set_option maxRecDepth 100000 in
theorem gp_wsJ6_numberOfTrailingZeros_0f7a4 : GoodIn lw_tbl wsJ6_numberOfTrailingZeros_0f7a4 := by unfold wsJ6_numberOfTrailingZeros_0f7a4; exact (gi_cons dw_944 (gi_cons dw_945 gi_nil))
set_option maxRecDepth 100000 in
theorem gp_wsX2_wisestGuess : GoodIn lw_tbl wsX2_wisestGuess := by unfold wsX2_wisestGuess; exact (gi_cons dw_941 (goodIn_app (goodIn_app (goodIn_app (goodIn_app (goodIn_app gp_wsX2_wisestGuess_o (goodIn_app gp_wsX0_mayBe (goodIn_app gp_wsJ6_numberOfTrailingZeros_0f7a4 gp_wsX2_mayCount))) gp_wsX20) gp_wsX50) gp_wsX60) gp_wsX00))
set_option maxRecDepth 100000 in
theorem gp_wsX10_wisest : GoodIn lw_tbl wsX10_wisest := by unfold wsX10_wisest; exact (gi_cons dw_938 (goodIn_app (goodIn_app (goodIn_app (goodIn_app (goodIn_app (goodIn_app gp_wsX10_wisest_o (goodIn_app gp_wsX2_caseCount (goodIn_app gp_wsX2_wisestGuess gp_wsX2_leftBehind))) gp_wsX100) gp_wsX20) gp_wsX50) gp_wsX60) gp_wsX00))
set_option maxRecDepth 100000 in
theorem gp_wsX11_wisest_o : GoodIn lw_tbl wsX11_wisest_o := by unfold wsX11_wisest_o; exact (gi_cons dw_570 (gi_cons dw_569 (gi_cons dw_16 (gi_cons dw_564 (gi_cons dw_563 (gi_cons dw_562 (gi_cons dw_830 (gi_cons dw_829 (gi_cons dw_828 (gi_cons dw_933 (gi_cons dw_932 (gi_cons dw_931 (gi_cons dw_730 (gi_cons dw_729 (gi_cons dw_728 gi_nil)))))))))))))))
set_option maxRecDepth 100000 in
theorem gp_wsX11_wisest : GoodIn lw_tbl wsX11_wisest := by unfold wsX11_wisest; exact (gi_cons dw_949 (goodIn_app (goodIn_app gp_wsX11_wisest_o (goodIn_app gp_wsX11_in (goodIn_app gp_wsX11_copies (goodIn_app gp_wsX11_casesNow (goodIn_app gp_wsX11_leftOf gp_wsX11_guesses))))) gp_wsX110))
set_option maxRecDepth 100000 in
theorem gp_wsX10_rank_o : GoodIn lw_tbl wsX10_rank_o := by unfold wsX10_rank_o; exact (gi_cons dw_50 (gi_cons dw_815 (gi_cons dw_49 (gi_cons dw_684 (gi_cons dw_43 (gi_cons dw_683 (gi_cons dw_837 (gi_cons dw_813 (gi_cons dw_836 (gi_cons dw_955 (gi_cons dw_954 gi_nil)))))))))))
set_option maxRecDepth 100000 in
theorem gp_wsX2_casesAheadOf_o : GoodIn lw_tbl wsX2_casesAheadOf_o := by unfold wsX2_casesAheadOf_o; exact (gi_cons dw_964 (gi_cons dw_963 (gi_cons dw_962 (gi_cons dw_961 (gi_cons dw_960 (gi_cons dw_813 (gi_cons dw_959 (gi_cons dw_958 (gi_cons dw_957 gi_nil)))))))))
set_option maxRecDepth 100000 in
theorem gp_wsX2_fillNear_o : GoodIn lw_tbl wsX2_fillNear_o := by unfold wsX2_fillNear_o; exact (gi_cons dw_963 (gi_cons dw_820 (gi_cons dw_969 (gi_cons dw_189 (gi_cons dw_133 (gi_cons dw_188 (gi_cons dw_968 (gi_cons dw_967 (gi_cons dw_966 (gi_cons dw_813 gi_nil))))))))))
set_option maxRecDepth 100000 in
theorem gp_wsX2_fillRow_o : GoodIn lw_tbl wsX2_fillRow_o := by unfold wsX2_fillRow_o; exact (gi_cons dw_841 (gi_cons dw_840 (gi_cons dw_839 (gi_cons dw_813 gi_nil))))
set_option maxRecDepth 100000 in
theorem gp_wsX2_fillRow : GoodIn lw_tbl wsX2_fillRow := by unfold wsX2_fillRow; exact (gi_cons dw_970 (goodIn_app (goodIn_app (goodIn_app (goodIn_app (goodIn_app gp_wsX2_fillRow_o gp_wsX2_oddsIfMay) gp_wsX20) gp_wsX60) gp_wsX00) gp_wsX50))
set_option maxRecDepth 100000 in
theorem gp_wsX2_fillNear : GoodIn lw_tbl wsX2_fillNear := by unfold wsX2_fillNear; exact (gi_cons dw_965 (goodIn_app (goodIn_app (goodIn_app (goodIn_app (goodIn_app gp_wsX2_fillNear_o gp_wsX2_fillRow) gp_wsX20) gp_wsX50) gp_wsX60) gp_wsX00))
set_option maxRecDepth 100000 in
theorem gp_wsX2_fillFar_o : GoodIn lw_tbl wsX2_fillFar_o := by unfold wsX2_fillFar_o; exact (gi_cons dw_964 (gi_cons dw_820 (gi_cons dw_968 (gi_cons dw_967 (gi_cons dw_966 (gi_cons dw_813 gi_nil))))))
set_option maxRecDepth 100000 in
theorem gp_wsX2_fillFar : GoodIn lw_tbl wsX2_fillFar := by unfold wsX2_fillFar; exact (gi_cons dw_971 (goodIn_app (goodIn_app (goodIn_app (goodIn_app (goodIn_app gp_wsX2_fillFar_o gp_wsX2_fillRow) gp_wsX20) gp_wsX50) gp_wsX60) gp_wsX00))
set_option maxRecDepth 100000 in
theorem gp_wsX2_casesAheadOf : GoodIn lw_tbl wsX2_casesAheadOf := by unfold wsX2_casesAheadOf; exact (gi_cons dw_956 (goodIn_app (goodIn_app (goodIn_app (goodIn_app (goodIn_app gp_wsX2_casesAheadOf_o (goodIn_app gp_wsX2_fillNear gp_wsX2_fillFar)) gp_wsX20) gp_wsX50) gp_wsX60) gp_wsX00))
set_option maxRecDepth 100000 in
theorem gp_wsX10_rank : GoodIn lw_tbl wsX10_rank := by unfold wsX10_rank; exact (gi_cons dw_953 (goodIn_app (goodIn_app (goodIn_app (goodIn_app (goodIn_app (goodIn_app gp_wsX10_rank_o (goodIn_app gp_wsX5_hasGuess (goodIn_app gp_wsX2_oddsOf gp_wsX2_casesAheadOf))) gp_wsX100) gp_wsX50) gp_wsX20) gp_wsX60) gp_wsX00))
set_option maxRecDepth 100000 in
theorem gp_wsX11_rank_o : GoodIn lw_tbl wsX11_rank_o := by unfold wsX11_rank_o; exact (gi_cons dw_722 (gi_cons dw_721 (gi_cons dw_720 (gi_cons dw_16 (gi_cons dw_730 (gi_cons dw_729 (gi_cons dw_728 (gi_cons dw_984 (gi_cons dw_983 (gi_cons dw_982 (gi_cons dw_981 (gi_cons dw_980 (gi_cons dw_979 (gi_cons dw_978 (gi_cons dw_977 (gi_cons dw_976 gi_nil))))))))))))))))
set_option maxRecDepth 100000 in
theorem gp_wsX11_fillsChances_o : GoodIn lw_tbl wsX11_fillsChances_o := by unfold wsX11_fillsChances_o; exact (gi_cons dw_986 (gi_cons dw_564 (gi_cons dw_563 (gi_cons dw_562 (gi_cons dw_16 (gi_cons dw_730 (gi_cons dw_729 (gi_cons dw_728 (gi_cons dw_849 (gi_cons dw_848 (gi_cons dw_847 gi_nil)))))))))))
set_option maxRecDepth 100000 in
theorem gp_wsX11_fillsChances : GoodIn lw_tbl wsX11_fillsChances := by unfold wsX11_fillsChances; exact (gi_cons dw_985 (goodIn_app (goodIn_app gp_wsX11_fillsChances_o (goodIn_app gp_wsX11_copies (goodIn_app gp_wsX11_guesses gp_wsX11_chanceOf))) gp_wsX110))
set_option maxRecDepth 100000 in
theorem gp_wsX11_isCase_o : GoodIn lw_tbl wsX11_isCase_o := by unfold wsX11_isCase_o; exact (gi_cons dw_399 (gi_cons dw_358 (gi_cons dw_736 (gi_cons dw_735 (gi_cons dw_734 (gi_cons dw_16 (gi_cons dw_853 (gi_cons dw_852 (gi_cons dw_851 gi_nil)))))))))
set_option maxRecDepth 100000 in
theorem gp_wsX11_isCase : GoodIn lw_tbl wsX11_isCase := by unfold wsX11_isCase; exact (gi_cons dw_987 (goodIn_app (goodIn_app gp_wsX11_isCase_o (goodIn_app gp_wsX11_thingAt gp_wsX11_mayBe)) gp_wsX110))
set_option maxRecDepth 100000 in
theorem gp_wsX11_isAhead : GoodIn lw_tbl wsX11_isAhead := by unfold wsX11_isAhead; exact (gi_cons dw_988 (goodIn_app (gi_cons dw_986 gi_nil) gp_wsX110))
set_option maxRecDepth 100000 in
theorem gp_wsX11_rank : GoodIn lw_tbl wsX11_rank := by unfold wsX11_rank; exact (gi_cons dw_975 (goodIn_app (goodIn_app gp_wsX11_rank_o (goodIn_app gp_wsX11_isGuess (goodIn_app gp_wsX11_fillsChances (goodIn_app gp_wsX11_isCase (goodIn_app gp_wsX11_guesses gp_wsX11_isAhead))))) gp_wsX110))
set_option maxRecDepth 100000 in
theorem gp_wsX10_ranked_o : GoodIn lw_tbl wsX10_ranked_o := by unfold wsX10_ranked_o; exact (gi_cons dw_815 (gi_cons dw_49 (gi_cons dw_994 (gi_cons dw_813 (gi_cons dw_993 gi_nil)))))
set_option maxRecDepth 100000 in
theorem gp_wsX2_caseAtRank_o : GoodIn lw_tbl wsX2_caseAtRank_o := by unfold wsX2_caseAtRank_o; exact (gi_cons dw_1001 (gi_cons dw_1000 (gi_cons dw_964 (gi_cons dw_963 (gi_cons dw_962 (gi_cons dw_961 (gi_cons dw_960 (gi_cons dw_813 (gi_cons dw_133 (gi_cons dw_494 (gi_cons dw_11 (gi_cons dw_43 (gi_cons dw_959 (gi_cons dw_958 (gi_cons dw_957 (gi_cons dw_999 (gi_cons dw_314 (gi_cons dw_313 (gi_cons dw_998 (gi_cons dw_997 (gi_cons dw_996 gi_nil)))))))))))))))))))))
set_option maxRecDepth 100000 in
theorem gp_wsX2_putOnTop : GoodIn lw_tbl wsX2_putOnTop := by unfold wsX2_putOnTop; exact (gi_cons dw_1002 (goodIn_app (gi_cons dw_1001 (gi_cons dw_1000 gi_nil)) gp_wsX20))
set_option maxRecDepth 100000 in
theorem gp_wsX2_caseAtRank : GoodIn lw_tbl wsX2_caseAtRank := by unfold wsX2_caseAtRank; exact (gi_cons dw_995 (goodIn_app (goodIn_app (goodIn_app (goodIn_app (goodIn_app gp_wsX2_caseAtRank_o (goodIn_app gp_wsX2_fillNear (goodIn_app gp_wsX2_fillFar (goodIn_app gp_wsJ7_fill_53178 gp_wsX2_putOnTop)))) gp_wsX20) gp_wsX50) gp_wsX60) gp_wsX00))
set_option maxRecDepth 100000 in
theorem gp_wsX10_ranked : GoodIn lw_tbl wsX10_ranked := by unfold wsX10_ranked; exact (gi_cons dw_992 (goodIn_app (goodIn_app (goodIn_app (goodIn_app (goodIn_app (goodIn_app gp_wsX10_ranked_o gp_wsX2_caseAtRank) gp_wsX100) gp_wsX20) gp_wsX50) gp_wsX60) gp_wsX00))
set_option maxRecDepth 100000 in
theorem gp_wsX11_ranked_o : GoodIn lw_tbl wsX11_ranked_o := by unfold wsX11_ranked_o; exact (gi_cons dw_986 (gi_cons dw_570 (gi_cons dw_569 (gi_cons dw_16 (gi_cons dw_984 (gi_cons dw_983 (gi_cons dw_982 (gi_cons dw_730 (gi_cons dw_729 (gi_cons dw_728 (gi_cons dw_978 (gi_cons dw_977 (gi_cons dw_976 gi_nil)))))))))))))
set_option maxRecDepth 100000 in
theorem gp_wsX11_ranked : GoodIn lw_tbl wsX11_ranked := by unfold wsX11_ranked; exact (gi_cons dw_1006 (goodIn_app (goodIn_app gp_wsX11_ranked_o (goodIn_app gp_wsX11_in (goodIn_app gp_wsX11_fillsChances (goodIn_app gp_wsX11_guesses gp_wsX11_isAhead)))) gp_wsX110))
set_option maxRecDepth 100000 in
theorem gp_wsX10_share_o : GoodIn lw_tbl wsX10_share_o := by unfold wsX10_share_o; exact (gi_cons dw_50 (gi_cons dw_498 (gi_cons dw_49 (gi_cons dw_815 (gi_cons dw_497 (gi_cons dw_43 (gi_cons dw_496 (gi_cons dw_618 (gi_cons dw_617 (gi_cons dw_11 (gi_cons dw_495 (gi_cons dw_494 (gi_cons dw_493 (gi_cons dw_753 (gi_cons dw_752 (gi_cons dw_295 (gi_cons dw_294 (gi_cons dw_860 (gi_cons dw_813 (gi_cons dw_859 gi_nil))))))))))))))))))))
set_option maxRecDepth 100000 in
theorem gp_wsX10_share : GoodIn lw_tbl wsX10_share := by unfold wsX10_share; exact (gi_cons dw_1010 (goodIn_app (goodIn_app (goodIn_app (goodIn_app (goodIn_app (goodIn_app gp_wsX10_share_o (goodIn_app gp_wsX5_hasWave (goodIn_app gp_wsX10_isThing (goodIn_app gp_wsX0_mayBe (goodIn_app gp_wsX10_has (goodIn_app gp_wsX5_oddsAt gp_wsX2_oddsOfAll)))))) gp_wsX100) gp_wsX50) gp_wsX60) gp_wsX00) gp_wsX20))
set_option maxRecDepth 100000 in
theorem gp_wsX11_share_o : GoodIn lw_tbl wsX11_share_o := by unfold wsX11_share_o; exact (gi_cons dw_399 (gi_cons dw_358 (gi_cons dw_567 (gi_cons dw_566 (gi_cons dw_565 (gi_cons dw_16 (gi_cons dw_625 (gi_cons dw_624 (gi_cons dw_564 (gi_cons dw_563 (gi_cons dw_562 (gi_cons dw_853 (gi_cons dw_852 (gi_cons dw_851 (gi_cons dw_576 (gi_cons dw_575 (gi_cons dw_574 (gi_cons dw_868 (gi_cons dw_867 (gi_cons dw_866 gi_nil))))))))))))))))))))
set_option maxRecDepth 100000 in
theorem gp_wsX11_share : GoodIn lw_tbl wsX11_share := by unfold wsX11_share; exact (gi_cons dw_1014 (goodIn_app (goodIn_app gp_wsX11_share_o (goodIn_app gp_wsX11_isWave (goodIn_app gp_wsX11_isThing (goodIn_app gp_wsX11_copies (goodIn_app gp_wsX11_mayBe (goodIn_app gp_wsX11_oddsAt gp_wsX11_sumAt)))))) gp_wsX110))
set_option maxRecDepth 100000 in
theorem gp_wsX10_sure_o : GoodIn lw_tbl wsX10_sure_o := by unfold wsX10_sure_o; exact (gi_cons dw_50 (gi_cons dw_1021 (gi_cons dw_49 (gi_cons dw_815 (gi_cons dw_687 (gi_cons dw_686 (gi_cons dw_685 (gi_cons dw_11 (gi_cons dw_692 (gi_cons dw_39 (gi_cons dw_691 (gi_cons dw_1020 (gi_cons dw_813 (gi_cons dw_1019 gi_nil))))))))))))))
set_option maxRecDepth 100000 in
theorem gp_wsX2_oddsOverWithin_r1 : GoodIn lw_tbl wsX2_oddsOverWithin_r1 := by unfold wsX2_oddsOverWithin_r1; exact (gi_cons dw_820 (gi_cons dw_1023 (gi_cons dw_875 (gi_cons dw_874 (gi_cons dw_813 (gi_cons dw_876 (gi_cons dw_879 (gi_cons dw_878 (gi_cons dw_877 (gi_cons dw_880 (gi_cons dw_823 (gi_cons dw_841 (gi_cons dw_840 (gi_cons dw_839 (gi_cons dw_842 (gi_cons dw_495 (gi_cons dw_494 (gi_cons dw_493 (gi_cons dw_500 (gi_cons dw_501 (gi_cons dw_752 (gi_cons dw_11 (gi_cons dw_754 (gi_cons dw_295 gi_nil))))))))))))))))))))))))
set_option maxRecDepth 100000 in
theorem gp_wsX2_oddsOverWithin_r2 : GoodIn lw_tbl wsX2_oddsOverWithin_r2 := by unfold wsX2_oddsOverWithin_r2; exact (gi_cons dw_43 (gi_cons dw_294 (gi_cons dw_299 (gi_cons dw_300 (gi_cons dw_665 (gi_cons dw_664 (gi_cons dw_666 (gi_cons dw_524 (gi_cons dw_521 (gi_cons dw_520 (gi_cons dw_519 (gi_cons dw_522 (gi_cons dw_523 (gi_cons dw_314 (gi_cons dw_313 (gi_cons dw_323 (gi_cons dw_641 (gi_cons dw_640 (gi_cons dw_639 (gi_cons dw_642 (gi_cons dw_518 (gi_cons dw_517 (gi_cons dw_516 (gi_cons dw_525 gi_nil))))))))))))))))))))))))
set_option maxRecDepth 100000 in
theorem gp_wsX2_oddsOverWithin_r3 : GoodIn lw_tbl wsX2_oddsOverWithin_r3 := by unfold wsX2_oddsOverWithin_r3; exact (gi_cons dw_529 (gi_cons dw_528 (gi_cons dw_527 (gi_cons dw_526 (gi_cons dw_530 (gi_cons dw_533 (gi_cons dw_532 (gi_cons dw_531 (gi_cons dw_515 (gi_cons dw_75 (gi_cons dw_514 (gi_cons dw_534 (gi_cons dw_538 (gi_cons dw_97 (gi_cons dw_537 (gi_cons dw_536 (gi_cons dw_535 (gi_cons dw_539 (gi_cons dw_107 (gi_cons dw_98 (gi_cons dw_105 (gi_cons dw_544 (gi_cons dw_543 (gi_cons dw_542 gi_nil))))))))))))))))))))))))
set_option maxRecDepth 100000 in
theorem gp_wsX2_oddsOverWithin_r4 : GoodIn lw_tbl wsX2_oddsOverWithin_r4 := by unfold wsX2_oddsOverWithin_r4; exact (gi_cons dw_541 (gi_cons dw_540 (gi_cons dw_545 (gi_cons dw_513 (gi_cons dw_546 (gi_cons dw_548 (gi_cons dw_189 (gi_cons dw_133 (gi_cons dw_188 (gi_cons dw_547 (gi_cons dw_192 (gi_cons dw_191 (gi_cons dw_1025 (gi_cons dw_837 (gi_cons dw_836 (gi_cons dw_838 (gi_cons dw_702 (gi_cons dw_704 (gi_cons dw_819 (gi_cons dw_818 (gi_cons dw_817 (gi_cons dw_821 (gi_cons dw_822 (gi_cons dw_1024 gi_nil))))))))))))))))))))))))
set_option maxRecDepth 100000 in
theorem gp_wsX2_oddsOverWithin_r5 : GoodIn lw_tbl wsX2_oddsOverWithin_r5 := by unfold wsX2_oddsOverWithin_r5; exact (gi_cons dw_1020 (gi_cons dw_1019 (gi_cons dw_1029 (gi_cons dw_1028 (gi_cons dw_1027 (gi_cons dw_1026 gi_nil))))))
set_option maxRecDepth 100000 in
theorem gp_wsX2_oddsOverWithin : GoodIn lw_tbl wsX2_oddsOverWithin := by unfold wsX2_oddsOverWithin; exact (gi_cons dw_1022 (goodIn_app (goodIn_app (goodIn_app (goodIn_app (goodIn_app (goodIn_app gp_wsX2_oddsOverWithin_r1 (goodIn_app gp_wsX2_oddsOverWithin_r2 (goodIn_app gp_wsX2_oddsOverWithin_r3 (goodIn_app gp_wsX2_oddsOverWithin_r4 gp_wsX2_oddsOverWithin_r5)))) gp_wsX60) gp_wsX20) gp_wsX50) gp_wsX00) gp_wsX10))
set_option maxRecDepth 100000 in
theorem gp_wsX10_sure : GoodIn lw_tbl wsX10_sure := by unfold wsX10_sure; exact (gi_cons dw_1018 (goodIn_app (goodIn_app (goodIn_app (goodIn_app (goodIn_app (goodIn_app (goodIn_app gp_wsX10_sure_o (goodIn_app gp_wsX10_isHere (goodIn_app gp_wsX6_copyFrom gp_wsX2_oddsOverWithin))) gp_wsX100) gp_wsX50) gp_wsX60) gp_wsX20) gp_wsX00) gp_wsX10))
set_option maxRecDepth 100000 in
theorem gp_wsX11_sure_o : GoodIn lw_tbl wsX11_sure_o := by unfold wsX11_sure_o; exact (gi_cons dw_399 (gi_cons dw_358 (gi_cons dw_986 (gi_cons dw_725 (gi_cons dw_724 (gi_cons dw_723 (gi_cons dw_16 (gi_cons dw_570 (gi_cons dw_569 (gi_cons dw_984 (gi_cons dw_983 (gi_cons dw_982 (gi_cons dw_730 (gi_cons dw_729 (gi_cons dw_728 (gi_cons dw_1036 (gi_cons dw_1035 (gi_cons dw_1034 gi_nil))))))))))))))))))
set_option maxRecDepth 100000 in
theorem gp_wsX11_comesOver_o : GoodIn lw_tbl wsX11_comesOver_o := by unfold wsX11_comesOver_o; exact (gi_cons dw_474 (gi_cons dw_564 (gi_cons dw_563 (gi_cons dw_562 (gi_cons dw_16 (gi_cons dw_887 (gi_cons dw_886 (gi_cons dw_885 (gi_cons dw_716 (gi_cons dw_715 (gi_cons dw_714 gi_nil)))))))))))
set_option maxRecDepth 100000 in
theorem gp_wsX11_comesOver : GoodIn lw_tbl wsX11_comesOver := by unfold wsX11_comesOver; exact (gi_cons dw_1037 (goodIn_app (goodIn_app gp_wsX11_comesOver_o (goodIn_app gp_wsX11_copies (goodIn_app gp_wsX11_bestFor gp_wsX11_goesBy))) gp_wsX110))
set_option maxRecDepth 100000 in
theorem gp_wsX11_sure : GoodIn lw_tbl wsX11_sure := by unfold wsX11_sure; exact (gi_cons dw_1033 (goodIn_app (goodIn_app gp_wsX11_sure_o (goodIn_app gp_wsX11_isHere (goodIn_app gp_wsX11_in (goodIn_app gp_wsX11_fillsChances (goodIn_app gp_wsX11_guesses gp_wsX11_comesOver))))) gp_wsX110))
set_option maxRecDepth 100000 in
theorem gp_wsX10_alike_o : GoodIn lw_tbl wsX10_alike_o := by unfold wsX10_alike_o; exact (gi_cons dw_50 (gi_cons dw_684 (gi_cons dw_43 (gi_cons dw_683 (gi_cons dw_1042 (gi_cons dw_702 (gi_cons dw_11 gi_nil)))))))
set_option maxRecDepth 100000 in
theorem gp_wsX10_alike : GoodIn lw_tbl wsX10_alike := by unfold wsX10_alike; exact (gi_cons dw_1041 (goodIn_app (goodIn_app (goodIn_app gp_wsX10_alike_o (goodIn_app gp_wsX5_hasGuess gp_wsX10_thingIn)) gp_wsX100) gp_wsX50))
set_option maxRecDepth 100000 in
theorem gp_wsX11_alike_o : GoodIn lw_tbl wsX11_alike_o := by unfold wsX11_alike_o; exact (gi_cons dw_399 (gi_cons dw_358 (gi_cons dw_722 (gi_cons dw_721 (gi_cons dw_720 (gi_cons dw_16 (gi_cons dw_736 (gi_cons dw_735 (gi_cons dw_734 gi_nil)))))))))
set_option maxRecDepth 100000 in
theorem gp_wsX11_alike : GoodIn lw_tbl wsX11_alike := by unfold wsX11_alike; exact (gi_cons dw_1046 (goodIn_app (goodIn_app gp_wsX11_alike_o (goodIn_app gp_wsX11_isGuess gp_wsX11_thingAt)) gp_wsX110))
set_option maxRecDepth 100000 in
theorem gp_wsX10_sunk_o : GoodIn lw_tbl wsX10_sunk_o := by unfold wsX10_sunk_o; exact (gi_cons dw_50 (gi_cons dw_49 (gi_cons dw_815 (gi_cons dw_684 (gi_cons dw_43 (gi_cons dw_683 (gi_cons dw_894 (gi_cons dw_813 (gi_cons dw_893 gi_nil)))))))))
set_option maxRecDepth 100000 in
theorem gp_wsX10_sunk : GoodIn lw_tbl wsX10_sunk := by unfold wsX10_sunk; exact (gi_cons dw_1050 (goodIn_app (goodIn_app (goodIn_app (goodIn_app (goodIn_app (goodIn_app (goodIn_app gp_wsX10_sunk_o (goodIn_app gp_wsX5_hasGuess gp_wsX2_borneOver)) gp_wsX100) gp_wsX50) gp_wsX60) gp_wsX20) gp_wsX00) gp_wsX10))
set_option maxRecDepth 100000 in
theorem gp_wsX11_sunk_o : GoodIn lw_tbl wsX11_sunk_o := by unfold wsX11_sunk_o; exact (gi_cons dw_398 (gi_cons dw_358 (gi_cons dw_399 (gi_cons dw_722 (gi_cons dw_721 (gi_cons dw_720 (gi_cons dw_16 (gi_cons dw_564 (gi_cons dw_563 (gi_cons dw_562 (gi_cons dw_725 (gi_cons dw_724 (gi_cons dw_723 (gi_cons dw_739 (gi_cons dw_738 (gi_cons dw_737 gi_nil))))))))))))))))
set_option maxRecDepth 100000 in
theorem gp_wsX11_sunk : GoodIn lw_tbl wsX11_sunk := by unfold wsX11_sunk; exact (gi_cons dw_1054 (goodIn_app (goodIn_app gp_wsX11_sunk_o (goodIn_app gp_wsX11_isGuess (goodIn_app gp_wsX11_copies (goodIn_app gp_wsX11_isHere gp_wsX11_bearsBy)))) gp_wsX110))
set_option maxRecDepth 100000 in
theorem gp_wsX10_stuck_o : GoodIn lw_tbl wsX10_stuck_o := by unfold wsX10_stuck_o; exact (gi_cons dw_50 (gi_cons dw_49 (gi_cons dw_815 (gi_cons dw_875 (gi_cons dw_813 (gi_cons dw_874 gi_nil))))))
set_option maxRecDepth 100000 in
theorem gp_wsX10_stuck : GoodIn lw_tbl wsX10_stuck := by unfold wsX10_stuck; exact (gi_cons dw_1058 (goodIn_app (goodIn_app (goodIn_app (goodIn_app (goodIn_app (goodIn_app (goodIn_app gp_wsX10_stuck_o gp_wsX2_bestGuess) gp_wsX100) gp_wsX50) gp_wsX60) gp_wsX20) gp_wsX00) gp_wsX10))
set_option maxRecDepth 100000 in
theorem gp_wsX11_stuck_o : GoodIn lw_tbl wsX11_stuck_o := by unfold wsX11_stuck_o; exact (gi_cons dw_398 (gi_cons dw_358 (gi_cons dw_564 (gi_cons dw_563 (gi_cons dw_562 (gi_cons dw_16 (gi_cons dw_725 (gi_cons dw_724 (gi_cons dw_723 (gi_cons dw_887 (gi_cons dw_886 (gi_cons dw_885 gi_nil))))))))))))
set_option maxRecDepth 100000 in
theorem gp_wsX11_stuck : GoodIn lw_tbl wsX11_stuck := by unfold wsX11_stuck; exact (gi_cons dw_1062 (goodIn_app (goodIn_app gp_wsX11_stuck_o (goodIn_app gp_wsX11_copies (goodIn_app gp_wsX11_isHere gp_wsX11_bestFor))) gp_wsX110))
set_option maxRecDepth 100000 in
theorem gp_wsX10_spread_o : GoodIn lw_tbl wsX10_spread_o := by unfold wsX10_spread_o; exact (gi_cons dw_50 (gi_cons dw_815 (gi_cons dw_49 (gi_cons dw_497 (gi_cons dw_43 (gi_cons dw_496 (gi_cons dw_1068 (gi_cons dw_813 (gi_cons dw_1067 gi_nil)))))))))
set_option maxRecDepth 100000 in
theorem gp_wsX2_oddsApart_o : GoodIn lw_tbl wsX2_oddsApart_o := by unfold wsX2_oddsApart_o; exact (gi_cons dw_969 (gi_cons dw_189 (gi_cons dw_133 (gi_cons dw_188 (gi_cons dw_926 (gi_cons dw_192 (gi_cons dw_191 (gi_cons dw_841 (gi_cons dw_840 (gi_cons dw_839 (gi_cons dw_813 gi_nil)))))))))))
set_option maxRecDepth 100000 in
theorem gp_wsX2_oddsApart : GoodIn lw_tbl wsX2_oddsApart := by unfold wsX2_oddsApart; exact (gi_cons dw_1069 (goodIn_app (goodIn_app (goodIn_app (goodIn_app (goodIn_app gp_wsX2_oddsApart_o gp_wsX2_oddsIfMay) gp_wsX20) gp_wsX60) gp_wsX00) gp_wsX50))
set_option maxRecDepth 100000 in
theorem gp_wsX10_spread : GoodIn lw_tbl wsX10_spread := by unfold wsX10_spread; exact (gi_cons dw_1066 (goodIn_app (goodIn_app (goodIn_app (goodIn_app (goodIn_app (goodIn_app gp_wsX10_spread_o (goodIn_app gp_wsX5_hasWave gp_wsX2_oddsApart)) gp_wsX100) gp_wsX50) gp_wsX20) gp_wsX60) gp_wsX00))
set_option maxRecDepth 100000 in
theorem gp_wsX11_spread_o : GoodIn lw_tbl wsX11_spread_o := by unfold wsX11_spread_o; exact (gi_cons dw_567 (gi_cons dw_566 (gi_cons dw_565 (gi_cons dw_16 (gi_cons dw_564 (gi_cons dw_563 (gi_cons dw_562 (gi_cons dw_853 (gi_cons dw_852 (gi_cons dw_851 (gi_cons dw_576 (gi_cons dw_575 (gi_cons dw_574 gi_nil)))))))))))))
set_option maxRecDepth 100000 in
theorem gp_wsX11_spread : GoodIn lw_tbl wsX11_spread := by unfold wsX11_spread; exact (gi_cons dw_1073 (goodIn_app (goodIn_app gp_wsX11_spread_o (goodIn_app gp_wsX11_isWave (goodIn_app gp_wsX11_copies (goodIn_app gp_wsX11_mayBe gp_wsX11_oddsAt)))) gp_wsX110))
set_option maxRecDepth 100000 in
theorem gp_wsX10_dearest_o : GoodIn lw_tbl wsX10_dearest_o := by unfold wsX10_dearest_o; exact (gi_cons dw_50 (gi_cons dw_498 (gi_cons dw_49 (gi_cons dw_634 (gi_cons dw_494 (gi_cons dw_633 gi_nil))))))
