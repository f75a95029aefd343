theorem ggX11_hold_X11_in : GoodIn wsX11_hold wsX11_in := gi_sub (fun w h => List.mem_cons_of_mem _ (List.mem_append_left _ (List.mem_append_right _ h))) gd_wsX11_in
set_option maxRecDepth 20000 in
theorem gX11_hold_X11_in : GoodIn wsX11_hold (va_wsS RX11 281 yX11_in wsX11_in) := goodIn_app (goodIn_of _ (by decide +kernel)) ggX11_hold_X11_in
theorem dX11_hold_0 : decode cX11_hold 0 = .ok (.iload_n 1, 1) := dc1_27 (by decide +kernel)
theorem dX11_hold_1 : decode cX11_hold 1 = .ok (.iconst 0, 1) := dc1_3 (by decide +kernel)
theorem dX11_hold_2 : decode cX11_hold 2 = .ok (.iconst 2, 1) := dc1_5 (by decide +kernel)
theorem dX11_hold_3 : decode cX11_hold 3 = .ok (.invokestatic 281, 3) := dcw_184 (by decide +kernel)
theorem dX11_hold_6 : decode cX11_hold 6 = .ok (.ifCond .ne 5, 3) := dcs_154 (n := 5) (by decide +kernel)
theorem dX11_hold_9 : decode cX11_hold 9 = .ok (.iconst 0, 1) := dc1_3 (by decide +kernel)
theorem dX11_hold_10 : decode cX11_hold 10 = .ok (.ireturn, 1) := dc1_172 (by decide +kernel)
theorem dX11_hold_11 : decode cX11_hold 11 = .ok (.aload_n 0, 1) := dc1_42 (by decide +kernel)
theorem dX11_hold_12 : decode cX11_hold 12 = .ok (.getfield 128, 3) := dcw_180 (by decide +kernel)
theorem dX11_hold_15 : decode cX11_hold 15 = .ok (.iload_n 1, 1) := dc1_27 (by decide +kernel)
theorem dX11_hold_16 : decode cX11_hold 16 = .ok (.iconst 1, 1) := dc1_4 (by decide +kernel)
theorem dX11_hold_17 : decode cX11_hold 17 = .ok (.bastore, 1) := dc1_84 (by decide +kernel)
theorem dX11_hold_18 : decode cX11_hold 18 = .ok (.iconst 0, 1) := dc1_3 (by decide +kernel)
theorem dX11_hold_19 : decode cX11_hold 19 = .ok (.istore_n 2, 1) := dc1_61 (by decide +kernel)
theorem dX11_hold_20 : decode cX11_hold 20 = .ok (.iload_n 2, 1) := dc1_28 (by decide +kernel)
theorem dX11_hold_21 : decode cX11_hold 21 = .ok (.bipush 29, 2) := dcb_16 (n := 29) (by decide +kernel)
theorem dX11_hold_23 : decode cX11_hold 23 = .ok (.if_icmp .ge 26, 3) := dcs_162 (n := 26) (by decide +kernel)
theorem dX11_hold_26 : decode cX11_hold 26 = .ok (.aload_n 0, 1) := dc1_42 (by decide +kernel)
theorem dX11_hold_27 : decode cX11_hold 27 = .ok (.getfield 131, 3) := dcw_180 (by decide +kernel)
theorem dX11_hold_30 : decode cX11_hold 30 = .ok (.bipush 29, 2) := dcb_16 (n := 29) (by decide +kernel)
theorem dX11_hold_32 : decode cX11_hold 32 = .ok (.iload_n 1, 1) := dc1_27 (by decide +kernel)
theorem dX11_hold_33 : decode cX11_hold 33 = .ok (.imul, 1) := dc1_104 (by decide +kernel)
theorem dX11_hold_34 : decode cX11_hold 34 = .ok (.iload_n 2, 1) := dc1_28 (by decide +kernel)
theorem dX11_hold_35 : decode cX11_hold 35 = .ok (.iadd, 1) := dc1_96 (by decide +kernel)
theorem dX11_hold_36 : decode cX11_hold 36 = .ok (.aload_n 0, 1) := dc1_42 (by decide +kernel)
theorem dX11_hold_37 : decode cX11_hold 37 = .ok (.getfield 98, 3) := dcw_180 (by decide +kernel)
theorem dX11_hold_40 : decode cX11_hold 40 = .ok (.iload_n 2, 1) := dc1_28 (by decide +kernel)
theorem dX11_hold_41 : decode cX11_hold 41 = .ok (.iaload, 1) := dc1_46 (by decide +kernel)
theorem dX11_hold_42 : decode cX11_hold 42 = .ok (.iastore, 1) := dc1_79 (by decide +kernel)
theorem dX11_hold_43 : decode cX11_hold 43 = .ok (.iinc 2 1, 3) := dc_iinc (m := 1) (by decide +kernel)
theorem dX11_hold_46 : decode cX11_hold 46 = .ok (.goto (-26), 3) := dcs_167 (n := 65510) (by decide +kernel)
theorem dX11_hold_49 : decode cX11_hold 49 = .ok (.iconst 1, 1) := dc1_4 (by decide +kernel)
theorem dX11_hold_50 : decode cX11_hold 50 = .ok (.ireturn, 1) := dc1_172 (by decide +kernel)
theorem ggX11_restore_X11_in : GoodIn wsX11_restore wsX11_in := gi_sub (fun w h => List.mem_cons_of_mem _ (List.mem_append_left _ (List.mem_append_right _ h))) gd_wsX11_in
set_option maxRecDepth 20000 in
theorem gX11_restore_X11_in : GoodIn wsX11_restore (va_wsS RX11 281 yX11_in wsX11_in) := goodIn_app (goodIn_of _ (by decide +kernel)) ggX11_restore_X11_in
theorem dX11_restore_0 : decode cX11_restore 0 = .ok (.iload_n 1, 1) := dc1_27 (by decide +kernel)
theorem dX11_restore_1 : decode cX11_restore 1 = .ok (.iconst 0, 1) := dc1_3 (by decide +kernel)
theorem dX11_restore_2 : decode cX11_restore 2 = .ok (.iconst 2, 1) := dc1_5 (by decide +kernel)
theorem dX11_restore_3 : decode cX11_restore 3 = .ok (.invokestatic 281, 3) := dcw_184 (by decide +kernel)
theorem dX11_restore_6 : decode cX11_restore 6 = .ok (.ifCond .eq 12, 3) := dcs_153 (n := 12) (by decide +kernel)
theorem dX11_restore_9 : decode cX11_restore 9 = .ok (.aload_n 0, 1) := dc1_42 (by decide +kernel)
theorem dX11_restore_10 : decode cX11_restore 10 = .ok (.getfield 128, 3) := dcw_180 (by decide +kernel)
theorem dX11_restore_13 : decode cX11_restore 13 = .ok (.iload_n 1, 1) := dc1_27 (by decide +kernel)
theorem dX11_restore_14 : decode cX11_restore 14 = .ok (.baload, 1) := dc1_51 (by decide +kernel)
theorem dX11_restore_15 : decode cX11_restore 15 = .ok (.ifCond .ne 5, 3) := dcs_154 (n := 5) (by decide +kernel)
theorem dX11_restore_18 : decode cX11_restore 18 = .ok (.iconst 0, 1) := dc1_3 (by decide +kernel)
theorem dX11_restore_19 : decode cX11_restore 19 = .ok (.ireturn, 1) := dc1_172 (by decide +kernel)
theorem dX11_restore_20 : decode cX11_restore 20 = .ok (.iconst 0, 1) := dc1_3 (by decide +kernel)
theorem dX11_restore_21 : decode cX11_restore 21 = .ok (.istore_n 2, 1) := dc1_61 (by decide +kernel)
theorem dX11_restore_22 : decode cX11_restore 22 = .ok (.iload_n 2, 1) := dc1_28 (by decide +kernel)
theorem dX11_restore_23 : decode cX11_restore 23 = .ok (.bipush 29, 2) := dcb_16 (n := 29) (by decide +kernel)
theorem dX11_restore_25 : decode cX11_restore 25 = .ok (.if_icmp .ge 26, 3) := dcs_162 (n := 26) (by decide +kernel)
theorem dX11_restore_28 : decode cX11_restore 28 = .ok (.aload_n 0, 1) := dc1_42 (by decide +kernel)
theorem dX11_restore_29 : decode cX11_restore 29 = .ok (.getfield 98, 3) := dcw_180 (by decide +kernel)
theorem dX11_restore_32 : decode cX11_restore 32 = .ok (.iload_n 2, 1) := dc1_28 (by decide +kernel)
theorem dX11_restore_33 : decode cX11_restore 33 = .ok (.aload_n 0, 1) := dc1_42 (by decide +kernel)
theorem dX11_restore_34 : decode cX11_restore 34 = .ok (.getfield 131, 3) := dcw_180 (by decide +kernel)
theorem dX11_restore_37 : decode cX11_restore 37 = .ok (.bipush 29, 2) := dcb_16 (n := 29) (by decide +kernel)
theorem dX11_restore_39 : decode cX11_restore 39 = .ok (.iload_n 1, 1) := dc1_27 (by decide +kernel)
theorem dX11_restore_40 : decode cX11_restore 40 = .ok (.imul, 1) := dc1_104 (by decide +kernel)
theorem dX11_restore_41 : decode cX11_restore 41 = .ok (.iload_n 2, 1) := dc1_28 (by decide +kernel)
theorem dX11_restore_42 : decode cX11_restore 42 = .ok (.iadd, 1) := dc1_96 (by decide +kernel)
theorem dX11_restore_43 : decode cX11_restore 43 = .ok (.iaload, 1) := dc1_46 (by decide +kernel)
theorem dX11_restore_44 : decode cX11_restore 44 = .ok (.iastore, 1) := dc1_79 (by decide +kernel)
theorem dX11_restore_45 : decode cX11_restore 45 = .ok (.iinc 2 1, 3) := dc_iinc (m := 1) (by decide +kernel)
theorem dX11_restore_48 : decode cX11_restore 48 = .ok (.goto (-26), 3) := dcs_167 (n := 65510) (by decide +kernel)
theorem dX11_restore_51 : decode cX11_restore 51 = .ok (.aload_n 0, 1) := dc1_42 (by decide +kernel)
theorem dX11_restore_52 : decode cX11_restore 52 = .ok (.iconst 0, 1) := dc1_3 (by decide +kernel)
theorem dX11_restore_53 : decode cX11_restore 53 = .ok (.putfield 230, 3) := dcw_181 (by decide +kernel)
theorem dX11_restore_56 : decode cX11_restore 56 = .ok (.iconst 1, 1) := dc1_4 (by decide +kernel)
theorem dX11_restore_57 : decode cX11_restore 57 = .ok (.ireturn, 1) := dc1_172 (by decide +kernel)
theorem dX11_partiesIn_0 : decode cX11_partiesIn 0 = .ok (.iconst 0, 1) := dc1_3 (by decide +kernel)
theorem dX11_partiesIn_1 : decode cX11_partiesIn 1 = .ok (.istore_n 2, 1) := dc1_61 (by decide +kernel)
theorem dX11_partiesIn_2 : decode cX11_partiesIn 2 = .ok (.iconst 0, 1) := dc1_3 (by decide +kernel)
theorem dX11_partiesIn_3 : decode cX11_partiesIn 3 = .ok (.istore_n 3, 1) := dc1_62 (by decide +kernel)
theorem dX11_partiesIn_4 : decode cX11_partiesIn 4 = .ok (.iload_n 3, 1) := dc1_29 (by decide +kernel)
theorem dX11_partiesIn_5 : decode cX11_partiesIn 5 = .ok (.aload_n 0, 1) := dc1_42 (by decide +kernel)
theorem dX11_partiesIn_6 : decode cX11_partiesIn 6 = .ok (.getfield 49, 3) := dcw_180 (by decide +kernel)
theorem dX11_partiesIn_9 : decode cX11_partiesIn 9 = .ok (.aload_n 0, 1) := dc1_42 (by decide +kernel)
theorem dX11_partiesIn_10 : decode cX11_partiesIn 10 = .ok (.getfield 215, 3) := dcw_180 (by decide +kernel)
theorem dX11_partiesIn_13 : decode cX11_partiesIn 13 = .ok (.iaload, 1) := dc1_46 (by decide +kernel)
theorem dX11_partiesIn_14 : decode cX11_partiesIn 14 = .ok (.if_icmp .ge 28, 3) := dcs_162 (n := 28) (by decide +kernel)
theorem dX11_partiesIn_17 : decode cX11_partiesIn 17 = .ok (.aload_n 0, 1) := dc1_42 (by decide +kernel)
theorem dX11_partiesIn_18 : decode cX11_partiesIn 18 = .ok (.getfield 101, 3) := dcw_180 (by decide +kernel)
theorem dX11_partiesIn_21 : decode cX11_partiesIn 21 = .ok (.bipush 15, 2) := dcb_16 (n := 15) (by decide +kernel)
theorem dX11_partiesIn_23 : decode cX11_partiesIn 23 = .ok (.iload_n 3, 1) := dc1_29 (by decide +kernel)
theorem dX11_partiesIn_24 : decode cX11_partiesIn 24 = .ok (.iadd, 1) := dc1_96 (by decide +kernel)
theorem dX11_partiesIn_25 : decode cX11_partiesIn 25 = .ok (.iaload, 1) := dc1_46 (by decide +kernel)
theorem dX11_partiesIn_26 : decode cX11_partiesIn 26 = .ok (.iload_n 1, 1) := dc1_27 (by decide +kernel)
theorem dX11_partiesIn_27 : decode cX11_partiesIn 27 = .ok (.if_icmp .ne 9, 3) := dcs_160 (n := 9) (by decide +kernel)
theorem dX11_partiesIn_30 : decode cX11_partiesIn 30 = .ok (.iload_n 2, 1) := dc1_28 (by decide +kernel)
theorem dX11_partiesIn_31 : decode cX11_partiesIn 31 = .ok (.iconst 1, 1) := dc1_4 (by decide +kernel)
theorem dX11_partiesIn_32 : decode cX11_partiesIn 32 = .ok (.iload_n 3, 1) := dc1_29 (by decide +kernel)
theorem dX11_partiesIn_33 : decode cX11_partiesIn 33 = .ok (.ishl, 1) := dc1_120 (by decide +kernel)
theorem dX11_partiesIn_34 : decode cX11_partiesIn 34 = .ok (.ior, 1) := dc1_128 (by decide +kernel)
theorem dX11_partiesIn_35 : decode cX11_partiesIn 35 = .ok (.istore_n 2, 1) := dc1_61 (by decide +kernel)
theorem dX11_partiesIn_36 : decode cX11_partiesIn 36 = .ok (.iinc 3 1, 3) := dc_iinc (m := 1) (by decide +kernel)
theorem dX11_partiesIn_39 : decode cX11_partiesIn 39 = .ok (.goto (-35), 3) := dcs_167 (n := 65501) (by decide +kernel)
theorem dX11_partiesIn_42 : decode cX11_partiesIn 42 = .ok (.iload_n 2, 1) := dc1_28 (by decide +kernel)
theorem dX11_partiesIn_43 : decode cX11_partiesIn 43 = .ok (.ireturn, 1) := dc1_172 (by decide +kernel)
theorem dX11_sumNow_0 : decode cX11_sumNow 0 = .ok (.iconst 0, 1) := dc1_3 (by decide +kernel)
theorem dX11_sumNow_1 : decode cX11_sumNow 1 = .ok (.istore_n 3, 1) := dc1_62 (by decide +kernel)
theorem dX11_sumNow_2 : decode cX11_sumNow 2 = .ok (.iload_n 1, 1) := dc1_27 (by decide +kernel)
theorem dX11_sumNow_3 : decode cX11_sumNow 3 = .ok (.istore 4, 2) := dcu_54 (by decide +kernel)
theorem dX11_sumNow_5 : decode cX11_sumNow 5 = .ok (.iload 4, 2) := dcu_21 (by decide +kernel)
theorem dX11_sumNow_7 : decode cX11_sumNow 7 = .ok (.iload_n 1, 1) := dc1_27 (by decide +kernel)
theorem dX11_sumNow_8 : decode cX11_sumNow 8 = .ok (.iload_n 2, 1) := dc1_28 (by decide +kernel)
theorem dX11_sumNow_9 : decode cX11_sumNow 9 = .ok (.iadd, 1) := dc1_96 (by decide +kernel)
theorem dX11_sumNow_10 : decode cX11_sumNow 10 = .ok (.if_icmp .ge 19, 3) := dcs_162 (n := 19) (by decide +kernel)
theorem dX11_sumNow_13 : decode cX11_sumNow 13 = .ok (.iload_n 3, 1) := dc1_29 (by decide +kernel)
theorem dX11_sumNow_14 : decode cX11_sumNow 14 = .ok (.aload_n 0, 1) := dc1_42 (by decide +kernel)
theorem dX11_sumNow_15 : decode cX11_sumNow 15 = .ok (.getfield 98, 3) := dcw_180 (by decide +kernel)
theorem dX11_sumNow_18 : decode cX11_sumNow 18 = .ok (.iload 4, 2) := dcu_21 (by decide +kernel)
theorem dX11_sumNow_20 : decode cX11_sumNow 20 = .ok (.iaload, 1) := dc1_46 (by decide +kernel)
theorem dX11_sumNow_21 : decode cX11_sumNow 21 = .ok (.iadd, 1) := dc1_96 (by decide +kernel)
theorem dX11_sumNow_22 : decode cX11_sumNow 22 = .ok (.istore_n 3, 1) := dc1_62 (by decide +kernel)
theorem dX11_sumNow_23 : decode cX11_sumNow 23 = .ok (.iinc 4 1, 3) := dc_iinc (m := 1) (by decide +kernel)
theorem dX11_sumNow_26 : decode cX11_sumNow 26 = .ok (.goto (-21), 3) := dcs_167 (n := 65515) (by decide +kernel)
theorem dX11_sumNow_29 : decode cX11_sumNow 29 = .ok (.iload_n 3, 1) := dc1_29 (by decide +kernel)
theorem dX11_sumNow_30 : decode cX11_sumNow 30 = .ok (.ireturn, 1) := dc1_172 (by decide +kernel)
theorem ggX11_count_X11_copies : GoodIn wsX11_count wsX11_copies := gi_sub (fun w h => List.mem_cons_of_mem _ (List.mem_append_left _ (List.mem_append_right _ (List.mem_append_left _ h)))) gd_wsX11_copies
set_option maxRecDepth 20000 in
theorem gX11_count_X11_copies : GoodIn wsX11_count (wsV RX11 352 RX11 yX11_copies wsX11_copies) := goodIn_app (goodIn_r _ [9, 10, 11, 12] (by decide +kernel) (by decide +kernel)) ggX11_count_X11_copies
theorem ggX11_count_X11_partiesIn : GoodIn wsX11_count wsX11_partiesIn := gi_sub (fun w h => List.mem_cons_of_mem _ (List.mem_append_left _ (List.mem_append_right _ (List.mem_append_right _ (List.mem_append_left _ h))))) gd_wsX11_partiesIn
set_option maxRecDepth 20000 in
theorem gX11_count_X11_partiesIn : GoodIn wsX11_count (wsV RX11 431 RX11 yX11_partiesIn wsX11_partiesIn) := goodIn_app (goodIn_r _ [13, 14, 15, 12] (by decide +kernel) (by decide +kernel)) ggX11_count_X11_partiesIn
theorem ggX11_count_X11_sumNow : GoodIn wsX11_count wsX11_sumNow := gi_sub (fun w h => List.mem_cons_of_mem _ (List.mem_append_left _ (List.mem_append_right _ (List.mem_append_right _ (List.mem_append_right _ (List.mem_append_left _ h)))))) gd_wsX11_sumNow
set_option maxRecDepth 20000 in
theorem gX11_count_X11_sumNow : GoodIn wsX11_count (wsV RX11 434 RX11 yX11_sumNow wsX11_sumNow) := goodIn_app (goodIn_r _ [16, 17, 18, 12] (by decide +kernel) (by decide +kernel)) ggX11_count_X11_sumNow
theorem ggX11_count_X11_bits : GoodIn wsX11_count wsX11_bits := gi_sub (fun w h => List.mem_cons_of_mem _ (List.mem_append_left _ (List.mem_append_right _ (List.mem_append_right _ (List.mem_append_right _ (List.mem_append_right _ (List.mem_append_left _ h))))))) gd_wsX11_bits
set_option maxRecDepth 20000 in
theorem gX11_count_X11_bits : GoodIn wsX11_count (va_wsS RX11 312 yX11_bits wsX11_bits) := goodIn_app (goodIn_of _ (by decide +kernel)) ggX11_count_X11_bits
theorem ggX11_count_X11_guesses : GoodIn wsX11_count wsX11_guesses := gi_sub (fun w h => List.mem_cons_of_mem _ (List.mem_append_left _ (List.mem_append_right _ (List.mem_append_right _ (List.mem_append_right _ (List.mem_append_right _ (List.mem_append_right _ (List.mem_append_left _ h)))))))) gd_wsX11_guesses
set_option maxRecDepth 20000 in
theorem gX11_count_X11_guesses : GoodIn wsX11_count (wsV RX11 285 RX11 yX11_guesses wsX11_guesses) := goodIn_app (goodIn_r _ [21, 22, 23, 12] (by decide +kernel) (by decide +kernel)) ggX11_count_X11_guesses
theorem ggX11_count_X11_thereNumber : GoodIn wsX11_count wsX11_thereNumber := gi_sub (fun w h => List.mem_cons_of_mem _ (List.mem_append_left _ (List.mem_append_right _ (List.mem_append_right _ (List.mem_append_right _ (List.mem_append_right _ (List.mem_append_right _ (List.mem_append_right _ (List.mem_append_left _ h))))))))) gd_wsX11_thereNumber
set_option maxRecDepth 20000 in
theorem gX11_count_X11_thereNumber : GoodIn wsX11_count (wsV RX11 370 RX11 yX11_thereNumber wsX11_thereNumber) := goodIn_app (goodIn_r _ [24, 25, 26, 12] (by decide +kernel) (by decide +kernel)) ggX11_count_X11_thereNumber
theorem ggX11_count_X11_mayAt : GoodIn wsX11_count wsX11_mayAt := gi_sub (fun w h => List.mem_cons_of_mem _ (List.mem_append_left _ (List.mem_append_right _ (List.mem_append_right _ (List.mem_append_right _ (List.mem_append_right _ (List.mem_append_right _ (List.mem_append_right _ (List.mem_append_right _ (List.mem_append_left _ h)))))))))) gd_wsX11_mayAt
set_option maxRecDepth 20000 in
theorem gX11_count_X11_mayAt : GoodIn wsX11_count (wsV RX11 309 RX11 yX11_mayAt wsX11_mayAt) := goodIn_app (goodIn_r _ [27, 28, 29, 12] (by decide +kernel) (by decide +kernel)) ggX11_count_X11_mayAt
theorem ggX11_count_X11_isHere : GoodIn wsX11_count wsX11_isHere := gi_sub (fun w h => List.mem_cons_of_mem _ (List.mem_append_left _ (List.mem_append_right _ (List.mem_append_right _ (List.mem_append_right _ (List.mem_append_right _ (List.mem_append_right _ (List.mem_append_right _ (List.mem_append_right _ (List.mem_append_right _ (List.mem_append_left _ h))))))))))) gd_wsX11_isHere
set_option maxRecDepth 20000 in
theorem gX11_count_X11_isHere : GoodIn wsX11_count (wsV RX11 364 RX11 yX11_isHere wsX11_isHere) := goodIn_app (goodIn_r _ [30, 31, 32, 12] (by decide +kernel) (by decide +kernel)) ggX11_count_X11_isHere
theorem ggX11_count_X11_faresOf : GoodIn wsX11_count wsX11_faresOf := gi_sub (fun w h => List.mem_cons_of_mem _ (List.mem_append_left _ (List.mem_append_right _ (List.mem_append_right _ (List.mem_append_right _ (List.mem_append_right _ (List.mem_append_right _ (List.mem_append_right _ (List.mem_append_right _ (List.mem_append_right _ (List.mem_append_right _ h))))))))))) gd_wsX11_faresOf
set_option maxRecDepth 20000 in
theorem gX11_count_X11_faresOf : GoodIn wsX11_count (wsV RX11 339 RX11 yX11_faresOf wsX11_faresOf) := goodIn_app (goodIn_r _ [33, 34, 35, 12] (by decide +kernel) (by decide +kernel)) ggX11_count_X11_faresOf
theorem dX11_count_0 : decode cX11_count 0 = .ok (.aload_n 0, 1) := dc1_42 (by decide +kernel)
theorem dX11_count_1 : decode cX11_count 1 = .ok (.invokevirtual 352, 3) := dcw_182 (by decide +kernel)
theorem dX11_count_4 : decode cX11_count 4 = .ok (.iconst 0, 1) := dc1_3 (by decide +kernel)
theorem dX11_count_5 : decode cX11_count 5 = .ok (.istore_n 2, 1) := dc1_61 (by decide +kernel)
theorem dX11_count_6 : decode cX11_count 6 = .ok (.iload_n 1, 1) := dc1_27 (by decide +kernel)
theorem dX11_count_7 : decode cX11_count 7 = .ok (.tableswitch 396 0 18 #[89, 99, 109, 117, 125, 131, 137, 143, 152, 157, 162, 167, 212, 262, 302, 307, 312, 320, 357], 89) := by decide +kernel
theorem dX11_count_96 : decode cX11_count 96 = .ok (.aload_n 0, 1) := dc1_42 (by decide +kernel)
theorem dX11_count_97 : decode cX11_count 97 = .ok (.getfield 40, 3) := dcw_180 (by decide +kernel)
theorem dX11_count_100 : decode cX11_count 100 = .ok (.aload_n 0, 1) := dc1_42 (by decide +kernel)
theorem dX11_count_101 : decode cX11_count 101 = .ok (.getfield 215, 3) := dcw_180 (by decide +kernel)
theorem dX11_count_104 : decode cX11_count 104 = .ok (.iaload, 1) := dc1_46 (by decide +kernel)
theorem dX11_count_105 : decode cX11_count 105 = .ok (.ireturn, 1) := dc1_172 (by decide +kernel)
theorem dX11_count_106 : decode cX11_count 106 = .ok (.aload_n 0, 1) := dc1_42 (by decide +kernel)
theorem dX11_count_107 : decode cX11_count 107 = .ok (.getfield 49, 3) := dcw_180 (by decide +kernel)
theorem dX11_count_110 : decode cX11_count 110 = .ok (.aload_n 0, 1) := dc1_42 (by decide +kernel)
theorem dX11_count_111 : decode cX11_count 111 = .ok (.getfield 215, 3) := dcw_180 (by decide +kernel)
theorem dX11_count_114 : decode cX11_count 114 = .ok (.iaload, 1) := dc1_46 (by decide +kernel)
theorem dX11_count_115 : decode cX11_count 115 = .ok (.ireturn, 1) := dc1_172 (by decide +kernel)
theorem dX11_count_116 : decode cX11_count 116 = .ok (.aload_n 0, 1) := dc1_42 (by decide +kernel)
theorem dX11_count_117 : decode cX11_count 117 = .ok (.getfield 101, 3) := dcw_180 (by decide +kernel)
theorem dX11_count_120 : decode cX11_count 120 = .ok (.bipush 27, 2) := dcb_16 (n := 27) (by decide +kernel)
theorem dX11_count_122 : decode cX11_count 122 = .ok (.iaload, 1) := dc1_46 (by decide +kernel)
theorem dX11_count_123 : decode cX11_count 123 = .ok (.ireturn, 1) := dc1_172 (by decide +kernel)
theorem dX11_count_124 : decode cX11_count 124 = .ok (.aload_n 0, 1) := dc1_42 (by decide +kernel)
theorem dX11_count_125 : decode cX11_count 125 = .ok (.getfield 101, 3) := dcw_180 (by decide +kernel)
theorem dX11_count_128 : decode cX11_count 128 = .ok (.bipush 28, 2) := dcb_16 (n := 28) (by decide +kernel)
theorem dX11_count_130 : decode cX11_count 130 = .ok (.iaload, 1) := dc1_46 (by decide +kernel)
theorem dX11_count_131 : decode cX11_count 131 = .ok (.ireturn, 1) := dc1_172 (by decide +kernel)
theorem dX11_count_132 : decode cX11_count 132 = .ok (.aload_n 0, 1) := dc1_42 (by decide +kernel)
theorem dX11_count_133 : decode cX11_count 133 = .ok (.iconst 0, 1) := dc1_3 (by decide +kernel)
theorem dX11_count_134 : decode cX11_count 134 = .ok (.invokevirtual 431, 3) := dcw_182 (by decide +kernel)
theorem dX11_count_137 : decode cX11_count 137 = .ok (.ireturn, 1) := dc1_172 (by decide +kernel)
theorem dX11_count_138 : decode cX11_count 138 = .ok (.aload_n 0, 1) := dc1_42 (by decide +kernel)
theorem dX11_count_139 : decode cX11_count 139 = .ok (.iconst 1, 1) := dc1_4 (by decide +kernel)
theorem dX11_count_140 : decode cX11_count 140 = .ok (.invokevirtual 431, 3) := dcw_182 (by decide +kernel)
theorem dX11_count_143 : decode cX11_count 143 = .ok (.ireturn, 1) := dc1_172 (by decide +kernel)
theorem dX11_count_144 : decode cX11_count 144 = .ok (.aload_n 0, 1) := dc1_42 (by decide +kernel)
theorem dX11_count_145 : decode cX11_count 145 = .ok (.iconst 2, 1) := dc1_5 (by decide +kernel)
theorem dX11_count_146 : decode cX11_count 146 = .ok (.invokevirtual 431, 3) := dcw_182 (by decide +kernel)
theorem dX11_count_149 : decode cX11_count 149 = .ok (.ireturn, 1) := dc1_172 (by decide +kernel)
theorem dX11_count_150 : decode cX11_count 150 = .ok (.aload_n 0, 1) := dc1_42 (by decide +kernel)
theorem dX11_count_151 : decode cX11_count 151 = .ok (.bipush 21, 2) := dcb_16 (n := 21) (by decide +kernel)
theorem dX11_count_153 : decode cX11_count 153 = .ok (.bipush 6, 2) := dcb_16 (n := 6) (by decide +kernel)
theorem dX11_count_155 : decode cX11_count 155 = .ok (.invokevirtual 434, 3) := dcw_182 (by decide +kernel)
theorem dX11_count_158 : decode cX11_count 158 = .ok (.ireturn, 1) := dc1_172 (by decide +kernel)
theorem dX11_count_159 : decode cX11_count 159 = .ok (.aload_n 0, 1) := dc1_42 (by decide +kernel)
theorem dX11_count_160 : decode cX11_count 160 = .ok (.getfield 148, 3) := dcw_180 (by decide +kernel)
theorem dX11_count_163 : decode cX11_count 163 = .ok (.ireturn, 1) := dc1_172 (by decide +kernel)
theorem dX11_count_164 : decode cX11_count 164 = .ok (.aload_n 0, 1) := dc1_42 (by decide +kernel)
theorem dX11_count_165 : decode cX11_count 165 = .ok (.getfield 230, 3) := dcw_180 (by decide +kernel)
theorem dX11_count_168 : decode cX11_count 168 = .ok (.ireturn, 1) := dc1_172 (by decide +kernel)
theorem dX11_count_169 : decode cX11_count 169 = .ok (.aload_n 0, 1) := dc1_42 (by decide +kernel)
theorem dX11_count_170 : decode cX11_count 170 = .ok (.getfield 233, 3) := dcw_180 (by decide +kernel)
theorem dX11_count_173 : decode cX11_count 173 = .ok (.ireturn, 1) := dc1_172 (by decide +kernel)
theorem dX11_count_174 : decode cX11_count 174 = .ok (.aload_n 0, 1) := dc1_42 (by decide +kernel)
theorem dX11_count_175 : decode cX11_count 175 = .ok (.getfield 128, 3) := dcw_180 (by decide +kernel)
theorem dX11_count_178 : decode cX11_count 178 = .ok (.iconst 0, 1) := dc1_3 (by decide +kernel)
theorem dX11_count_179 : decode cX11_count 179 = .ok (.baload, 1) := dc1_51 (by decide +kernel)
theorem dX11_count_180 : decode cX11_count 180 = .ok (.ifCond .eq 7, 3) := dcs_153 (n := 7) (by decide +kernel)
theorem dX11_count_183 : decode cX11_count 183 = .ok (.iconst 1, 1) := dc1_4 (by decide +kernel)
theorem dX11_count_184 : decode cX11_count 184 = .ok (.goto 4, 3) := dcs_167 (n := 4) (by decide +kernel)
theorem dX11_count_187 : decode cX11_count 187 = .ok (.iconst 0, 1) := dc1_3 (by decide +kernel)
theorem dX11_count_188 : decode cX11_count 188 = .ok (.aload_n 0, 1) := dc1_42 (by decide +kernel)
theorem dX11_count_189 : decode cX11_count 189 = .ok (.getfield 128, 3) := dcw_180 (by decide +kernel)
theorem dX11_count_192 : decode cX11_count 192 = .ok (.iconst 1, 1) := dc1_4 (by decide +kernel)
theorem dX11_count_193 : decode cX11_count 193 = .ok (.baload, 1) := dc1_51 (by decide +kernel)
theorem dX11_count_194 : decode cX11_count 194 = .ok (.ifCond .eq 7, 3) := dcs_153 (n := 7) (by decide +kernel)
theorem dX11_count_197 : decode cX11_count 197 = .ok (.iconst 1, 1) := dc1_4 (by decide +kernel)
theorem dX11_count_198 : decode cX11_count 198 = .ok (.goto 4, 3) := dcs_167 (n := 4) (by decide +kernel)
theorem dX11_count_201 : decode cX11_count 201 = .ok (.iconst 0, 1) := dc1_3 (by decide +kernel)
theorem dX11_count_202 : decode cX11_count 202 = .ok (.iadd, 1) := dc1_96 (by decide +kernel)
theorem dX11_count_203 : decode cX11_count 203 = .ok (.aload_n 0, 1) := dc1_42 (by decide +kernel)
theorem dX11_count_204 : decode cX11_count 204 = .ok (.getfield 128, 3) := dcw_180 (by decide +kernel)
theorem dX11_count_207 : decode cX11_count 207 = .ok (.iconst 2, 1) := dc1_5 (by decide +kernel)
theorem dX11_count_208 : decode cX11_count 208 = .ok (.baload, 1) := dc1_51 (by decide +kernel)
theorem dX11_count_209 : decode cX11_count 209 = .ok (.ifCond .eq 7, 3) := dcs_153 (n := 7) (by decide +kernel)
theorem dX11_count_212 : decode cX11_count 212 = .ok (.iconst 1, 1) := dc1_4 (by decide +kernel)
theorem dX11_count_213 : decode cX11_count 213 = .ok (.goto 4, 3) := dcs_167 (n := 4) (by decide +kernel)
theorem dX11_count_216 : decode cX11_count 216 = .ok (.iconst 0, 1) := dc1_3 (by decide +kernel)
theorem dX11_count_217 : decode cX11_count 217 = .ok (.iadd, 1) := dc1_96 (by decide +kernel)
theorem dX11_count_218 : decode cX11_count 218 = .ok (.ireturn, 1) := dc1_172 (by decide +kernel)
theorem dX11_count_219 : decode cX11_count 219 = .ok (.aload_n 0, 1) := dc1_42 (by decide +kernel)
theorem dX11_count_220 : decode cX11_count 220 = .ok (.getfield 101, 3) := dcw_180 (by decide +kernel)
theorem dX11_count_223 : decode cX11_count 223 = .ok (.iconst 0, 1) := dc1_3 (by decide +kernel)
theorem dX11_count_224 : decode cX11_count 224 = .ok (.iaload, 1) := dc1_46 (by decide +kernel)
theorem dX11_count_225 : decode cX11_count 225 = .ok (.invokestatic 312, 3) := dcw_184 (by decide +kernel)
theorem dX11_count_228 : decode cX11_count 228 = .ok (.aload_n 0, 1) := dc1_42 (by decide +kernel)
theorem dX11_count_229 : decode cX11_count 229 = .ok (.getfield 101, 3) := dcw_180 (by decide +kernel)
theorem dX11_count_232 : decode cX11_count 232 = .ok (.iconst 1, 1) := dc1_4 (by decide +kernel)
theorem dX11_count_233 : decode cX11_count 233 = .ok (.iaload, 1) := dc1_46 (by decide +kernel)
theorem dX11_count_234 : decode cX11_count 234 = .ok (.invokestatic 312, 3) := dcw_184 (by decide +kernel)
theorem dX11_count_237 : decode cX11_count 237 = .ok (.iadd, 1) := dc1_96 (by decide +kernel)
theorem dX11_count_238 : decode cX11_count 238 = .ok (.aload_n 0, 1) := dc1_42 (by decide +kernel)
theorem dX11_count_239 : decode cX11_count 239 = .ok (.getfield 101, 3) := dcw_180 (by decide +kernel)
theorem dX11_count_242 : decode cX11_count 242 = .ok (.iconst 2, 1) := dc1_5 (by decide +kernel)
theorem dX11_count_243 : decode cX11_count 243 = .ok (.iaload, 1) := dc1_46 (by decide +kernel)
theorem dX11_count_244 : decode cX11_count 244 = .ok (.invokestatic 312, 3) := dcw_184 (by decide +kernel)
theorem dX11_count_247 : decode cX11_count 247 = .ok (.iadd, 1) := dc1_96 (by decide +kernel)
theorem dX11_count_248 : decode cX11_count 248 = .ok (.aload_n 0, 1) := dc1_42 (by decide +kernel)
theorem dX11_count_249 : decode cX11_count 249 = .ok (.getfield 101, 3) := dcw_180 (by decide +kernel)
theorem dX11_count_252 : decode cX11_count 252 = .ok (.iconst 3, 1) := dc1_6 (by decide +kernel)
theorem dX11_count_253 : decode cX11_count 253 = .ok (.iaload, 1) := dc1_46 (by decide +kernel)
theorem dX11_count_254 : decode cX11_count 254 = .ok (.invokestatic 312, 3) := dcw_184 (by decide +kernel)
theorem dX11_count_257 : decode cX11_count 257 = .ok (.iadd, 1) := dc1_96 (by decide +kernel)
theorem dX11_count_258 : decode cX11_count 258 = .ok (.aload_n 0, 1) := dc1_42 (by decide +kernel)
theorem dX11_count_259 : decode cX11_count 259 = .ok (.getfield 101, 3) := dcw_180 (by decide +kernel)
theorem dX11_count_262 : decode cX11_count 262 = .ok (.iconst 4, 1) := dc1_7 (by decide +kernel)
theorem dX11_count_263 : decode cX11_count 263 = .ok (.iaload, 1) := dc1_46 (by decide +kernel)
theorem dX11_count_264 : decode cX11_count 264 = .ok (.invokestatic 312, 3) := dcw_184 (by decide +kernel)
theorem dX11_count_267 : decode cX11_count 267 = .ok (.iadd, 1) := dc1_96 (by decide +kernel)
theorem dX11_count_268 : decode cX11_count 268 = .ok (.ireturn, 1) := dc1_172 (by decide +kernel)
theorem dX11_count_269 : decode cX11_count 269 = .ok (.iconst 0, 1) := dc1_3 (by decide +kernel)
theorem dX11_count_270 : decode cX11_count 270 = .ok (.istore_n 3, 1) := dc1_62 (by decide +kernel)
theorem dX11_count_271 : decode cX11_count 271 = .ok (.iload_n 3, 1) := dc1_29 (by decide +kernel)
theorem dX11_count_272 : decode cX11_count 272 = .ok (.aload_n 0, 1) := dc1_42 (by decide +kernel)
theorem dX11_count_273 : decode cX11_count 273 = .ok (.getfield 40, 3) := dcw_180 (by decide +kernel)
theorem dX11_count_276 : decode cX11_count 276 = .ok (.aload_n 0, 1) := dc1_42 (by decide +kernel)
theorem dX11_count_277 : decode cX11_count 277 = .ok (.getfield 215, 3) := dcw_180 (by decide +kernel)
theorem dX11_count_280 : decode cX11_count 280 = .ok (.iaload, 1) := dc1_46 (by decide +kernel)
theorem dX11_count_281 : decode cX11_count 281 = .ok (.if_icmp .ge 26, 3) := dcs_162 (n := 26) (by decide +kernel)
theorem dX11_count_284 : decode cX11_count 284 = .ok (.aload_n 0, 1) := dc1_42 (by decide +kernel)
theorem dX11_count_285 : decode cX11_count 285 = .ok (.getfield 101, 3) := dcw_180 (by decide +kernel)
theorem dX11_count_288 : decode cX11_count 288 = .ok (.iconst 5, 1) := dc1_8 (by decide +kernel)
theorem dX11_count_289 : decode cX11_count 289 = .ok (.iload_n 3, 1) := dc1_29 (by decide +kernel)
theorem dX11_count_290 : decode cX11_count 290 = .ok (.iadd, 1) := dc1_96 (by decide +kernel)
theorem dX11_count_291 : decode cX11_count 291 = .ok (.iaload, 1) := dc1_46 (by decide +kernel)
theorem dX11_count_292 : decode cX11_count 292 = .ok (.ifCond .lt 9, 3) := dcs_155 (n := 9) (by decide +kernel)
theorem dX11_count_295 : decode cX11_count 295 = .ok (.iload_n 2, 1) := dc1_28 (by decide +kernel)
theorem dX11_count_296 : decode cX11_count 296 = .ok (.iconst 1, 1) := dc1_4 (by decide +kernel)
theorem dX11_count_297 : decode cX11_count 297 = .ok (.iload_n 3, 1) := dc1_29 (by decide +kernel)
theorem dX11_count_298 : decode cX11_count 298 = .ok (.ishl, 1) := dc1_120 (by decide +kernel)
theorem dX11_count_299 : decode cX11_count 299 = .ok (.ior, 1) := dc1_128 (by decide +kernel)
theorem dX11_count_300 : decode cX11_count 300 = .ok (.istore_n 2, 1) := dc1_61 (by decide +kernel)
theorem dX11_count_301 : decode cX11_count 301 = .ok (.iinc 3 1, 3) := dc_iinc (m := 1) (by decide +kernel)
theorem dX11_count_304 : decode cX11_count 304 = .ok (.goto (-33), 3) := dcs_167 (n := 65503) (by decide +kernel)
theorem dX11_count_307 : decode cX11_count 307 = .ok (.iload_n 2, 1) := dc1_28 (by decide +kernel)
theorem dX11_count_308 : decode cX11_count 308 = .ok (.ireturn, 1) := dc1_172 (by decide +kernel)
theorem dX11_count_309 : decode cX11_count 309 = .ok (.aload_n 0, 1) := dc1_42 (by decide +kernel)
theorem dX11_count_310 : decode cX11_count 310 = .ok (.invokevirtual 285, 3) := dcw_182 (by decide +kernel)
theorem dX11_count_313 : decode cX11_count 313 = .ok (.ireturn, 1) := dc1_172 (by decide +kernel)
theorem dX11_count_314 : decode cX11_count 314 = .ok (.aload_n 0, 1) := dc1_42 (by decide +kernel)
theorem dX11_count_315 : decode cX11_count 315 = .ok (.invokevirtual 370, 3) := dcw_182 (by decide +kernel)
theorem dX11_count_318 : decode cX11_count 318 = .ok (.ireturn, 1) := dc1_172 (by decide +kernel)
theorem dX11_count_319 : decode cX11_count 319 = .ok (.aload_n 0, 1) := dc1_42 (by decide +kernel)
theorem dX11_count_320 : decode cX11_count 320 = .ok (.bipush 10, 2) := dcb_16 (n := 10) (by decide +kernel)
theorem dX11_count_322 : decode cX11_count 322 = .ok (.iconst 5, 1) := dc1_8 (by decide +kernel)
theorem dX11_count_323 : decode cX11_count 323 = .ok (.invokevirtual 434, 3) := dcw_182 (by decide +kernel)
theorem dX11_count_326 : decode cX11_count 326 = .ok (.ireturn, 1) := dc1_172 (by decide +kernel)
theorem dX11_count_327 : decode cX11_count 327 = .ok (.iconst 0, 1) := dc1_3 (by decide +kernel)
theorem dX11_count_328 : decode cX11_count 328 = .ok (.istore_n 3, 1) := dc1_62 (by decide +kernel)
theorem dX11_count_329 : decode cX11_count 329 = .ok (.iload_n 3, 1) := dc1_29 (by decide +kernel)
theorem dX11_count_330 : decode cX11_count 330 = .ok (.aload_n 0, 1) := dc1_42 (by decide +kernel)
theorem dX11_count_331 : decode cX11_count 331 = .ok (.getfield 40, 3) := dcw_180 (by decide +kernel)
theorem dX11_count_334 : decode cX11_count 334 = .ok (.aload_n 0, 1) := dc1_42 (by decide +kernel)
theorem dX11_count_335 : decode cX11_count 335 = .ok (.getfield 215, 3) := dcw_180 (by decide +kernel)
theorem dX11_count_338 : decode cX11_count 338 = .ok (.iaload, 1) := dc1_46 (by decide +kernel)
theorem dX11_count_339 : decode cX11_count 339 = .ok (.if_icmp .ge 23, 3) := dcs_162 (n := 23) (by decide +kernel)
theorem dX11_count_342 : decode cX11_count 342 = .ok (.aload_n 0, 1) := dc1_42 (by decide +kernel)
theorem dX11_count_343 : decode cX11_count 343 = .ok (.iload_n 3, 1) := dc1_29 (by decide +kernel)
theorem dX11_count_344 : decode cX11_count 344 = .ok (.invokevirtual 309, 3) := dcw_182 (by decide +kernel)
theorem dX11_count_347 : decode cX11_count 347 = .ok (.ifCond .ne 9, 3) := dcs_154 (n := 9) (by decide +kernel)
theorem dX11_count_350 : decode cX11_count 350 = .ok (.iload_n 2, 1) := dc1_28 (by decide +kernel)
theorem dX11_count_351 : decode cX11_count 351 = .ok (.iconst 1, 1) := dc1_4 (by decide +kernel)
theorem dX11_count_352 : decode cX11_count 352 = .ok (.iload_n 3, 1) := dc1_29 (by decide +kernel)
theorem dX11_count_353 : decode cX11_count 353 = .ok (.ishl, 1) := dc1_120 (by decide +kernel)
theorem dX11_count_354 : decode cX11_count 354 = .ok (.ior, 1) := dc1_128 (by decide +kernel)
theorem dX11_count_355 : decode cX11_count 355 = .ok (.istore_n 2, 1) := dc1_61 (by decide +kernel)
theorem dX11_count_356 : decode cX11_count 356 = .ok (.iinc 3 1, 3) := dc_iinc (m := 1) (by decide +kernel)
theorem dX11_count_359 : decode cX11_count 359 = .ok (.goto (-30), 3) := dcs_167 (n := 65506) (by decide +kernel)
theorem dX11_count_362 : decode cX11_count 362 = .ok (.iload_n 2, 1) := dc1_28 (by decide +kernel)
theorem dX11_count_363 : decode cX11_count 363 = .ok (.ireturn, 1) := dc1_172 (by decide +kernel)
theorem dX11_count_364 : decode cX11_count 364 = .ok (.iconst 0, 1) := dc1_3 (by decide +kernel)
theorem dX11_count_365 : decode cX11_count 365 = .ok (.istore_n 3, 1) := dc1_62 (by decide +kernel)
theorem dX11_count_366 : decode cX11_count 366 = .ok (.iload_n 3, 1) := dc1_29 (by decide +kernel)
theorem dX11_count_367 : decode cX11_count 367 = .ok (.aload_n 0, 1) := dc1_42 (by decide +kernel)
theorem dX11_count_368 : decode cX11_count 368 = .ok (.getfield 49, 3) := dcw_180 (by decide +kernel)
theorem dX11_count_371 : decode cX11_count 371 = .ok (.aload_n 0, 1) := dc1_42 (by decide +kernel)
theorem dX11_count_372 : decode cX11_count 372 = .ok (.getfield 215, 3) := dcw_180 (by decide +kernel)
theorem dX11_count_375 : decode cX11_count 375 = .ok (.iaload, 1) := dc1_46 (by decide +kernel)
theorem dX11_count_376 : decode cX11_count 376 = .ok (.if_icmp .ge 25, 3) := dcs_162 (n := 25) (by decide +kernel)
theorem dX11_count_379 : decode cX11_count 379 = .ok (.aload_n 0, 1) := dc1_42 (by decide +kernel)
theorem dX11_count_380 : decode cX11_count 380 = .ok (.iload_n 3, 1) := dc1_29 (by decide +kernel)
theorem dX11_count_381 : decode cX11_count 381 = .ok (.invokevirtual 364, 3) := dcw_182 (by decide +kernel)
theorem dX11_count_384 : decode cX11_count 384 = .ok (.ifCond .eq 11, 3) := dcs_153 (n := 11) (by decide +kernel)
theorem dX11_count_387 : decode cX11_count 387 = .ok (.iload_n 2, 1) := dc1_28 (by decide +kernel)
theorem dX11_count_388 : decode cX11_count 388 = .ok (.aload_n 0, 1) := dc1_42 (by decide +kernel)
theorem dX11_count_389 : decode cX11_count 389 = .ok (.iload_n 3, 1) := dc1_29 (by decide +kernel)
theorem dX11_count_390 : decode cX11_count 390 = .ok (.invokevirtual 339, 3) := dcw_182 (by decide +kernel)
theorem dX11_count_393 : decode cX11_count 393 = .ok (.iadd, 1) := dc1_96 (by decide +kernel)
theorem dX11_count_394 : decode cX11_count 394 = .ok (.istore_n 2, 1) := dc1_61 (by decide +kernel)
theorem dX11_count_395 : decode cX11_count 395 = .ok (.iinc 3 1, 3) := dc_iinc (m := 1) (by decide +kernel)
theorem dX11_count_398 : decode cX11_count 398 = .ok (.goto (-32), 3) := dcs_167 (n := 65504) (by decide +kernel)
theorem dX11_count_401 : decode cX11_count 401 = .ok (.iload_n 2, 1) := dc1_28 (by decide +kernel)
theorem dX11_count_402 : decode cX11_count 402 = .ok (.ireturn, 1) := dc1_172 (by decide +kernel)
theorem dX11_count_403 : decode cX11_count 403 = .ok (.iconst (-1), 1) := dc1_2 (by decide +kernel)
theorem dX11_count_404 : decode cX11_count 404 = .ok (.ireturn, 1) := dc1_172 (by decide +kernel)
theorem LX11_hold_128 : Cond.fieldLink RX11 128 "GuessFerryModel" "isHeld" "[Z" ∈ wsX11_hold := by decide +kernel
theorem LX11_hold_131 : Cond.fieldLink RX11 131 "GuessFerryModel" "heldRows" "[I" ∈ wsX11_hold := by decide +kernel
theorem LX11_hold_98 : Cond.fieldLink RX11 98 "GuessFerryModel" "now" "[I" ∈ wsX11_hold := by decide +kernel
theorem inX11_hold_X11 : ∀ w ∈ u_ws RX11 TX11 58, w ∈ wsX11_hold := by decide +kernel
set_option maxHeartbeats 4000000 in
set_option maxRecDepth 100000 in
theorem br_hold_20 {l : Launch} {dC : Nat → ClassId} {dI : Nat → Nat → Nat} {cB cI cJ cZ cS : ClassId} {h : Nat} {a : Nat → Nat} {as : List Value} {r : Int32} {s' : RS} {k20 : RS → Int32 → Int32 → Option (Int32 × RS)} (hk20 : ∀ (s : RS) (x1 : Int32) (x2 : Int32), k20 s x1 x2 = some (r, s') → BlkI l yX11_hold wsX11_hold ({ frames := 1, cells := 0, slots := 0, locals := 22 }) cX11_hold 3 (some .boolean) (dC, dI) (tysA cB cI cJ cZ cS) as 20 (mwS cB cI cJ cZ h a s) [(0, .ref h), (1, .int x1), (2, .int x2)] [] (fun x u => x = r ∧ u = (mwS cB cI cJ cZ h a s'))) (s : RS) (x1 : Int32) (x2 : Int32) (hB : r_hold_20 k20 s x1 x2 = some (r, s')) : BlkI l yX11_hold wsX11_hold ({ frames := 1, cells := 0, slots := 0, locals := 22 }) cX11_hold 3 (some .boolean) (dC, dI) (tysA cB cI cJ cZ cS) as 20 (mwS cB cI cJ cZ h a s) [(0, .ref h), (1, .int x1), (2, .int x2)] [] (fun x u => x = r ∧ u = (mwS cB cI cJ cZ h a s')) := by
  intro p e s0 m below meth c A E H locs ls hP hD hS hl
  obtain ⟨C, hr, hlocks, hA, hK, hN⟩ := id E
  obtain ⟨hx, hb, hml, hown, hts⟩ := id C
  unfold r_hold_20 at hB
  refine lv_iload_n hx hb dX11_hold_20 rfl (lv_at hl 2 rfl) ?_
  refine lv_bipush (v := 29) hx hb dX11_hold_21 (by decide) ?_
  refine lv_icmp_ge (tgt := 49) hx hb dX11_hold_23 (by decide) (fun c1 => ?_) (fun c1 => ?_)
  · have hB := if_p hB c1
    refine lv_iconst (v := 1) hx hb dX11_hold_49 (by decide) ?_
    exact q_zret C hr hlocks (Or.inr rfl) hK hP hD hS (Nat.le_of_ble_eq_true rfl) (Nat.le_of_ble_eq_true rfl) dX11_hold_50 (by cases hB; exact ⟨rfl, rfl⟩)
  · have hB := if_n hB c1
    refine lv_aload_n hx hb dX11_hold_26 rfl (lv_at hl 0 rfl) ?_
    refine q_get (v := .ref (a 57)) C inX11_hold_X11 hK hP 0 rfl rfl 57 (by decide) rfl LX11_hold_131 rfl dX11_hold_27 ?_
    refine lv_bipush (v := 29) hx hb dX11_hold_30 (by decide) ?_
    refine lv_iload_n hx hb dX11_hold_32 rfl (lv_at hl 1 rfl) ?_
    refine lv_imul hx hb dX11_hold_33 ?_
    refine lv_iload_n hx hb dX11_hold_34 rfl (lv_at hl 2 rfl) ?_
    refine lv_iadd hx hb dX11_hold_35 ?_
    refine lv_aload_n hx hb dX11_hold_36 rfl (lv_at hl 0 rfl) ?_
    refine q_get (v := .ref (a 43)) C inX11_hold_X11 hK hP 0 rfl rfl 43 (by decide) rfl LX11_hold_98 rfl dX11_hold_37 ?_
    refine lv_iload_n hx hb dX11_hold_40 rfl (lv_at hl 2 rfl) ?_
    obtain ⟨g2, hB⟩ := guard_inv hB
    refine q_iald (x := (s.f 43 (Int32.toNatClampNeg x2))) C hK hP 27 1 rfl rfl (vpb_in g2) dX11_hold_41 rfl ?_
    obtain ⟨g3, hB⟩ := guard_inv hB
    obtain ⟨s4, hs5, hB⟩ := letS_inv hB
    refine q_iast (f2 := (upd (s.f 57) (Int32.toNatClampNeg ((29 * x1) + x2)) (s.f 43 (Int32.toNatClampNeg x2)))) (w2 := (mwS cB cI cJ cZ h a s4)) C hK hP hD hS 38 1 rfl rfl (vpb_in g3) dX11_hold_42 rfl (mwS_f57 hs5) (fun H locs hP hD hS => ?_)
    refine lv_iinc (v := (x2 + 1)) (lv' := [(2, .int (x2 + 1)), (0, .ref h), (1, .int x1)]) hx hb dX11_hold_43 hl (k := 2) rfl (rfl) (by decide) rfl (fun ls hl => ?_)
    refine lv_goto (tgt := 20) hx hb dX11_hold_46 (by decide) ?_
    exact hk20 _ _ _ hB p e s0 m below meth c A E H locs ls hP hD hS (lv_sub hl [1, 2, 0] rfl)
theorem br_hold_20L {l : Launch} {dC : Nat → ClassId} {dI : Nat → Nat → Nat} {cB cI cJ cZ cS : ClassId} {h : Nat} {a : Nat → Nat} {as : List Value} {r : Int32} {s' : RS} : ∀ (n : Nat) (s : RS) (x1 : Int32) (x2 : Int32), r_hold_20L n s x1 x2 = some (r, s') → BlkI l yX11_hold wsX11_hold ({ frames := 1, cells := 0, slots := 0, locals := 22 }) cX11_hold 3 (some .boolean) (dC, dI) (tysA cB cI cJ cZ cS) as 20 (mwS cB cI cJ cZ h a s) [(0, .ref h), (1, .int x1), (2, .int x2)] [] (fun x u => x = r ∧ u = (mwS cB cI cJ cZ h a s')) := by
  intro n
  induction n with
  | zero => intro s x1 x2 hB; exact none_ne hB
  | succ n ih => intro s x1 x2 hB; exact br_hold_20 ih _ _ _ hB
set_option maxHeartbeats 4000000 in
set_option maxRecDepth 100000 in
theorem br_hold {l : Launch} {dC : Nat → ClassId} {dI : Nat → Nat → Nat} {cB cI cJ cZ cS : ClassId} {h : Nat} {a : Nat → Nat} {as : List Value} {r : Int32} {s' : RS} (s : RS) (x1 : Int32) (hB : r_hold s x1 = some (r, s')) : BlkI l yX11_hold wsX11_hold ({ frames := 1, cells := 0, slots := 0, locals := 22 }) cX11_hold 3 (some .boolean) (dC, dI) (tysA cB cI cJ cZ cS) as 0 (mwS cB cI cJ cZ h a s) [(0, .ref h), (1, .int x1)] [] (fun x u => x = r ∧ u = (mwS cB cI cJ cZ h a s')) := by
  intro p e s0 m below meth c A E H locs ls hP hD hS hl
  obtain ⟨C, hr, hlocks, hA, hK, hN⟩ := id E
  obtain ⟨hx, hb, hml, hown, hts⟩ := id C
  unfold r_hold at hB
  refine lv_iload_n hx hb dX11_hold_0 rfl (lv_at hl 1 rfl) ?_
  refine lv_iconst (v := 0) hx hb dX11_hold_1 (by decide) ?_
  refine lv_iconst (v := 2) hx hb dX11_hold_2 (by decide) ?_
  obtain ⟨q_, hc, hB⟩ := bindP_inv hB
  refine q_goi0 (va_runS (As := [.int x1, .int 0, .int 2]) (rest := []) C (cr_in hc _) (va_cwS 3 hts gX11_hold_X11_in rfl rfl rfl (by decide +kernel) ⟨Nat.le_of_ble_eq_true rfl, Nat.le_of_ble_eq_true rfl⟩) (q_pre0 hN hK) rfl rfl hl.1 rfl (lv_room (Nat.le_of_ble_eq_true rfl)) dX11_hold_3 ⟨Nat.le_of_ble_eq_true rfl, Nat.le_of_ble_eq_true rfl⟩) hP hD hS hA (fun r1 w1 H locs hw hP hS => ?_)
  subst hw
  refine lv_if_ne (tgt := 11) hx hb dX11_hold_6 (by decide) (fun c2 => ?_) (fun c2 => ?_)
  · have hB := if_n hB c2
    refine lv_aload_n hx hb dX11_hold_11 rfl (lv_at hl 0 rfl) ?_
    refine q_get (v := .ref (a 56)) C inX11_hold_X11 hK hP 0 rfl rfl 56 (by decide) rfl LX11_hold_128 rfl dX11_hold_12 ?_
    refine lv_iload_n hx hb dX11_hold_15 rfl (lv_at hl 1 rfl) ?_
    refine lv_iconst (v := 1) hx hb dX11_hold_16 (by decide) ?_
    obtain ⟨g3, hB⟩ := guard_inv hB
    obtain ⟨s4, hs5, hB⟩ := letS_inv hB
    refine q_zast (f2 := (upd (s.f 56) (Int32.toNatClampNeg x1) (vp_nar .boolean 1))) (w2 := (mwS cB cI cJ cZ h a s4)) C hK hP hD hS 37 3 rfl rfl (vpb_in g3) dX11_hold_17 rfl (mwS_f56 hs5) (fun H locs hP hD hS => ?_)
    refine lv_iconst (v := 0) hx hb dX11_hold_18 (by decide) ?_
    refine lv_istore_n (lv' := [(2, .int 0), (0, .ref h), (1, .int x1)]) hx hb dX11_hold_19 rfl hl (by decide) rfl (fun ls hl => ?_)
    exact br_hold_20L fu _ _ _ hB p e s0 m below meth c A E H locs ls hP hD hS (lv_sub hl [1, 2, 0] rfl)
  · have hB := if_p hB c2
    refine lv_iconst (v := 0) hx hb dX11_hold_9 (by decide) ?_
    exact q_zret C hr hlocks (Or.inl rfl) hK hP hD hS (Nat.le_of_ble_eq_true rfl) (Nat.le_of_ble_eq_true rfl) dX11_hold_10 (by cases hB; exact ⟨rfl, rfl⟩)
theorem cr_hold {l : Launch} {dC : Nat → ClassId} {dI : Nat → Nat → Nat} {cB cI cJ cZ cS : ClassId} {h : Nat} {a : Nat → Nat} {r : Int32} {s' : RS} {s : RS} {x1 : Int32} (hB : r_hold s x1 = some (r, s')) : CI l yX11_hold wsX11_hold ({ frames := 1, cells := 0, slots := 0, locals := 22 }) (dC, dI) (tysA cB cI cJ cZ cS) (mwS cB cI cJ cZ h a s) [.ref h, .int x1] (fun x u => x = r ∧ u = (mwS cB cI cJ cZ h a s')) :=
  CI_of (cc := cX11_hold) (maxL := 3) (ret := (some .boolean)) (by decide) rfl (Nat.le_of_ble_eq_true rfl) (br_hold _ _ hB)
theorem LX11_restore_128 : Cond.fieldLink RX11 128 "GuessFerryModel" "isHeld" "[Z" ∈ wsX11_restore := by decide +kernel
theorem LX11_restore_131 : Cond.fieldLink RX11 131 "GuessFerryModel" "heldRows" "[I" ∈ wsX11_restore := by decide +kernel
theorem LX11_restore_230 : Cond.fieldLink RX11 230 "GuessFerryModel" "undos" "I" ∈ wsX11_restore := by decide +kernel
theorem LX11_restore_98 : Cond.fieldLink RX11 98 "GuessFerryModel" "now" "[I" ∈ wsX11_restore := by decide +kernel
theorem inX11_restore_X11 : ∀ w ∈ u_ws RX11 TX11 58, w ∈ wsX11_restore := by decide +kernel
set_option maxHeartbeats 4000000 in
set_option maxRecDepth 100000 in
theorem br_restore_22 {l : Launch} {dC : Nat → ClassId} {dI : Nat → Nat → Nat} {cB cI cJ cZ cS : ClassId} {h : Nat} {a : Nat → Nat} {as : List Value} {r : Int32} {s' : RS} {k22 : RS → Int32 → Int32 → Option (Int32 × RS)} (hk22 : ∀ (s : RS) (x1 : Int32) (x2 : Int32), k22 s x1 x2 = some (r, s') → BlkI l yX11_restore wsX11_restore ({ frames := 1, cells := 0, slots := 0, locals := 22 }) cX11_restore 3 (some .boolean) (dC, dI) (tysA cB cI cJ cZ cS) as 22 (mwS cB cI cJ cZ h a s) [(0, .ref h), (1, .int x1), (2, .int x2)] [] (fun x u => x = r ∧ u = (mwS cB cI cJ cZ h a s'))) (s : RS) (x1 : Int32) (x2 : Int32) (hB : r_restore_22 k22 s x1 x2 = some (r, s')) : BlkI l yX11_restore wsX11_restore ({ frames := 1, cells := 0, slots := 0, locals := 22 }) cX11_restore 3 (some .boolean) (dC, dI) (tysA cB cI cJ cZ cS) as 22 (mwS cB cI cJ cZ h a s) [(0, .ref h), (1, .int x1), (2, .int x2)] [] (fun x u => x = r ∧ u = (mwS cB cI cJ cZ h a s')) := by
  intro p e s0 m below meth c A E H locs ls hP hD hS hl
  obtain ⟨C, hr, hlocks, hA, hK, hN⟩ := id E
  obtain ⟨hx, hb, hml, hown, hts⟩ := id C
  unfold r_restore_22 at hB
  refine lv_iload_n hx hb dX11_restore_22 rfl (lv_at hl 2 rfl) ?_
  refine lv_bipush (v := 29) hx hb dX11_restore_23 (by decide) ?_
  refine lv_icmp_ge (tgt := 51) hx hb dX11_restore_25 (by decide) (fun c1 => ?_) (fun c1 => ?_)
  · have hB := if_p hB c1
    refine lv_aload_n hx hb dX11_restore_51 rfl (lv_at hl 0 rfl) ?_
    refine lv_iconst (v := 0) hx hb dX11_restore_52 (by decide) ?_
    obtain ⟨s2, hs3, hB⟩ := letS_inv hB
    refine q_put (ty := .int) (w2 := (mwS cB cI cJ cZ h a s2)) tyX11 tyX11_ok nmX11 C inX11_restore_X11 hK hP hD hS 0 rfl rfl 48 (by decide) rfl LX11_restore_230 rfl (by decide +kernel) (rfl) rfl (Nat.le_of_ble_eq_true rfl) dX11_restore_53 (mwS_v48 hs3) (fun H locs hP hD hS => ?_)
    refine lv_iconst (v := 1) hx hb dX11_restore_56 (by decide) ?_
    exact q_zret C hr hlocks (Or.inr rfl) hK hP hD hS (Nat.le_of_ble_eq_true rfl) (Nat.le_of_ble_eq_true rfl) dX11_restore_57 (by cases hB; exact ⟨rfl, rfl⟩)
  · have hB := if_n hB c1
    refine lv_aload_n hx hb dX11_restore_28 rfl (lv_at hl 0 rfl) ?_
    refine q_get (v := .ref (a 43)) C inX11_restore_X11 hK hP 0 rfl rfl 43 (by decide) rfl LX11_restore_98 rfl dX11_restore_29 ?_
    refine lv_iload_n hx hb dX11_restore_32 rfl (lv_at hl 2 rfl) ?_
    refine lv_aload_n hx hb dX11_restore_33 rfl (lv_at hl 0 rfl) ?_
    refine q_get (v := .ref (a 57)) C inX11_restore_X11 hK hP 0 rfl rfl 57 (by decide) rfl LX11_restore_131 rfl dX11_restore_34 ?_
    refine lv_bipush (v := 29) hx hb dX11_restore_37 (by decide) ?_
    refine lv_iload_n hx hb dX11_restore_39 rfl (lv_at hl 1 rfl) ?_
    refine lv_imul hx hb dX11_restore_40 ?_
    refine lv_iload_n hx hb dX11_restore_41 rfl (lv_at hl 2 rfl) ?_
    refine lv_iadd hx hb dX11_restore_42 ?_
    obtain ⟨g4, hB⟩ := guard_inv hB
    refine q_iald (x := (s.f 57 (Int32.toNatClampNeg ((29 * x1) + x2)))) C hK hP 38 1 rfl rfl (vpb_in g4) dX11_restore_43 rfl ?_
    obtain ⟨g5, hB⟩ := guard_inv hB
    obtain ⟨s6, hs7, hB⟩ := letS_inv hB
    refine q_iast (f2 := (upd (s.f 43) (Int32.toNatClampNeg x2) (s.f 57 (Int32.toNatClampNeg ((29 * x1) + x2))))) (w2 := (mwS cB cI cJ cZ h a s6)) C hK hP hD hS 27 1 rfl rfl (vpb_in g5) dX11_restore_44 rfl (mwS_f43 hs7) (fun H locs hP hD hS => ?_)
    refine lv_iinc (v := (x2 + 1)) (lv' := [(2, .int (x2 + 1)), (0, .ref h), (1, .int x1)]) hx hb dX11_restore_45 hl (k := 2) rfl (rfl) (by decide) rfl (fun ls hl => ?_)
    refine lv_goto (tgt := 22) hx hb dX11_restore_48 (by decide) ?_
    exact hk22 _ _ _ hB p e s0 m below meth c A E H locs ls hP hD hS (lv_sub hl [1, 2, 0] rfl)
theorem br_restore_22L {l : Launch} {dC : Nat → ClassId} {dI : Nat → Nat → Nat} {cB cI cJ cZ cS : ClassId} {h : Nat} {a : Nat → Nat} {as : List Value} {r : Int32} {s' : RS} : ∀ (n : Nat) (s : RS) (x1 : Int32) (x2 : Int32), r_restore_22L n s x1 x2 = some (r, s') → BlkI l yX11_restore wsX11_restore ({ frames := 1, cells := 0, slots := 0, locals := 22 }) cX11_restore 3 (some .boolean) (dC, dI) (tysA cB cI cJ cZ cS) as 22 (mwS cB cI cJ cZ h a s) [(0, .ref h), (1, .int x1), (2, .int x2)] [] (fun x u => x = r ∧ u = (mwS cB cI cJ cZ h a s')) := by
  intro n
  induction n with
  | zero => intro s x1 x2 hB; exact none_ne hB
  | succ n ih => intro s x1 x2 hB; exact br_restore_22 ih _ _ _ hB
set_option maxHeartbeats 4000000 in
set_option maxRecDepth 100000 in
theorem br_restore {l : Launch} {dC : Nat → ClassId} {dI : Nat → Nat → Nat} {cB cI cJ cZ cS : ClassId} {h : Nat} {a : Nat → Nat} {as : List Value} {r : Int32} {s' : RS} (s : RS) (x1 : Int32) (hB : r_restore s x1 = some (r, s')) : BlkI l yX11_restore wsX11_restore ({ frames := 1, cells := 0, slots := 0, locals := 22 }) cX11_restore 3 (some .boolean) (dC, dI) (tysA cB cI cJ cZ cS) as 0 (mwS cB cI cJ cZ h a s) [(0, .ref h), (1, .int x1)] [] (fun x u => x = r ∧ u = (mwS cB cI cJ cZ h a s')) := by
  intro p e s0 m below meth c A E H locs ls hP hD hS hl
  obtain ⟨C, hr, hlocks, hA, hK, hN⟩ := id E
  obtain ⟨hx, hb, hml, hown, hts⟩ := id C
  unfold r_restore at hB
  refine lv_iload_n hx hb dX11_restore_0 rfl (lv_at hl 1 rfl) ?_
  refine lv_iconst (v := 0) hx hb dX11_restore_1 (by decide) ?_
  refine lv_iconst (v := 2) hx hb dX11_restore_2 (by decide) ?_
  obtain ⟨q_, hc, hB⟩ := bindP_inv hB
  refine q_goi0 (va_runS (As := [.int x1, .int 0, .int 2]) (rest := []) C (cr_in hc _) (va_cwS 3 hts gX11_restore_X11_in rfl rfl rfl (by decide +kernel) ⟨Nat.le_of_ble_eq_true rfl, Nat.le_of_ble_eq_true rfl⟩) (q_pre0 hN hK) rfl rfl hl.1 rfl (lv_room (Nat.le_of_ble_eq_true rfl)) dX11_restore_3 ⟨Nat.le_of_ble_eq_true rfl, Nat.le_of_ble_eq_true rfl⟩) hP hD hS hA (fun r1 w1 H locs hw hP hS => ?_)
  subst hw
  refine lv_if_eq (tgt := 18) hx hb dX11_restore_6 (by decide) (fun c2 => ?_) (fun c2 => ?_)
  · have hB := if_p hB c2
    refine lv_iconst (v := 0) hx hb dX11_restore_18 (by decide) ?_
    exact q_zret C hr hlocks (Or.inl rfl) hK hP hD hS (Nat.le_of_ble_eq_true rfl) (Nat.le_of_ble_eq_true rfl) dX11_restore_19 (by cases hB; exact ⟨rfl, rfl⟩)
  · have hB := if_n hB c2
    refine lv_aload_n hx hb dX11_restore_9 rfl (lv_at hl 0 rfl) ?_
    refine q_get (v := .ref (a 56)) C inX11_restore_X11 hK hP 0 rfl rfl 56 (by decide) rfl LX11_restore_128 rfl dX11_restore_10 ?_
    refine lv_iload_n hx hb dX11_restore_13 rfl (lv_at hl 1 rfl) ?_
    obtain ⟨g3, hB⟩ := guard_inv hB
    refine q_zald (x := (s.f 56 (Int32.toNatClampNeg x1))) C hK hP 37 3 rfl rfl (vpb_in g3) dX11_restore_14 rfl ?_
    refine lv_if_ne (tgt := 20) hx hb dX11_restore_15 (by decide) (fun c4 => ?_) (fun c4 => ?_)
    · have hB := if_n hB c4
      refine lv_iconst (v := 0) hx hb dX11_restore_20 (by decide) ?_
      refine lv_istore_n (lv' := [(2, .int 0), (0, .ref h), (1, .int x1)]) hx hb dX11_restore_21 rfl hl (by decide) rfl (fun ls hl => ?_)
      exact br_restore_22L fu _ _ _ hB p e s0 m below meth c A E H locs ls hP hD hS (lv_sub hl [1, 2, 0] rfl)
    · have hB := if_p hB c4
      refine lv_iconst (v := 0) hx hb dX11_restore_18 (by decide) ?_
      exact q_zret C hr hlocks (Or.inl rfl) hK hP hD hS (Nat.le_of_ble_eq_true rfl) (Nat.le_of_ble_eq_true rfl) dX11_restore_19 (by cases hB; exact ⟨rfl, rfl⟩)
theorem cr_restore {l : Launch} {dC : Nat → ClassId} {dI : Nat → Nat → Nat} {cB cI cJ cZ cS : ClassId} {h : Nat} {a : Nat → Nat} {r : Int32} {s' : RS} {s : RS} {x1 : Int32} (hB : r_restore s x1 = some (r, s')) : CI l yX11_restore wsX11_restore ({ frames := 1, cells := 0, slots := 0, locals := 22 }) (dC, dI) (tysA cB cI cJ cZ cS) (mwS cB cI cJ cZ h a s) [.ref h, .int x1] (fun x u => x = r ∧ u = (mwS cB cI cJ cZ h a s')) :=
  CI_of (cc := cX11_restore) (maxL := 3) (ret := (some .boolean)) (by decide) rfl (Nat.le_of_ble_eq_true rfl) (br_restore _ _ hB)
theorem LX11_partiesIn_101 : Cond.fieldLink RX11 101 "GuessFerryModel" "row" "[I" ∈ wsX11_partiesIn := by decide +kernel
theorem LX11_partiesIn_215 : Cond.fieldLink RX11 215 "GuessFerryModel" "live" "I" ∈ wsX11_partiesIn := by decide +kernel
theorem LX11_partiesIn_49 : Cond.fieldLink RX11 49 "GuessFerryModel" "parties" "[I" ∈ wsX11_partiesIn := by decide +kernel
theorem inX11_partiesIn_X11 : ∀ w ∈ u_ws RX11 TX11 58, w ∈ wsX11_partiesIn := fun _ h => List.mem_cons_of_mem _ (List.mem_append_right _ h)
set_option maxHeartbeats 4000000 in
set_option maxRecDepth 100000 in
theorem br_partiesIn_36 {l : Launch} {dC : Nat → ClassId} {dI : Nat → Nat → Nat} {cB cI cJ cZ cS : ClassId} {h : Nat} {a : Nat → Nat} {as : List Value} {r : Int32} {s' : RS} {k4 : RS → Int32 → Int32 → Int32 → Option (Int32 × RS)} (hk4 : ∀ (s : RS) (x1 : Int32) (x2 : Int32) (x3 : Int32), k4 s x1 x2 x3 = some (r, s') → BlkI l yX11_partiesIn wsX11_partiesIn ({ frames := 0, cells := 0, slots := 0, locals := 0 }) cX11_partiesIn 4 (some .int) (dC, dI) (tysA cB cI cJ cZ cS) as 4 (mwS cB cI cJ cZ h a s) [(0, .ref h), (1, .int x1), (2, .int x2), (3, .int x3)] [] (fun x u => x = r ∧ u = (mwS cB cI cJ cZ h a s'))) (s : RS) (x1 : Int32) (x2 : Int32) (x3 : Int32) (hB : r_partiesIn_36 k4 s x1 x2 x3 = some (r, s')) : BlkI l yX11_partiesIn wsX11_partiesIn ({ frames := 0, cells := 0, slots := 0, locals := 0 }) cX11_partiesIn 4 (some .int) (dC, dI) (tysA cB cI cJ cZ cS) as 36 (mwS cB cI cJ cZ h a s) [(0, .ref h), (1, .int x1), (2, .int x2), (3, .int x3)] [] (fun x u => x = r ∧ u = (mwS cB cI cJ cZ h a s')) := by
  intro p e s0 m below meth c A E H locs ls hP hD hS hl
  obtain ⟨C, hr, hlocks, hA, hK, hN⟩ := id E
  obtain ⟨hx, hb, hml, hown, hts⟩ := id C
  unfold r_partiesIn_36 at hB
  refine lv_iinc (v := (x3 + 1)) (lv' := [(3, .int (x3 + 1)), (0, .ref h), (1, .int x1), (2, .int x2)]) hx hb dX11_partiesIn_36 hl (k := 3) rfl (rfl) (by decide) rfl (fun ls hl => ?_)
  refine lv_goto (tgt := 4) hx hb dX11_partiesIn_39 (by decide) ?_
  exact hk4 _ _ _ _ hB p e s0 m below meth c A E H locs ls hP hD hS (lv_sub hl [1, 2, 3, 0] rfl)
set_option maxHeartbeats 4000000 in
set_option maxRecDepth 100000 in
theorem br_partiesIn_4 {l : Launch} {dC : Nat → ClassId} {dI : Nat → Nat → Nat} {cB cI cJ cZ cS : ClassId} {h : Nat} {a : Nat → Nat} {as : List Value} {r : Int32} {s' : RS} {k4 : RS → Int32 → Int32 → Int32 → Option (Int32 × RS)} (hk4 : ∀ (s : RS) (x1 : Int32) (x2 : Int32) (x3 : Int32), k4 s x1 x2 x3 = some (r, s') → BlkI l yX11_partiesIn wsX11_partiesIn ({ frames := 0, cells := 0, slots := 0, locals := 0 }) cX11_partiesIn 4 (some .int) (dC, dI) (tysA cB cI cJ cZ cS) as 4 (mwS cB cI cJ cZ h a s) [(0, .ref h), (1, .int x1), (2, .int x2), (3, .int x3)] [] (fun x u => x = r ∧ u = (mwS cB cI cJ cZ h a s'))) (s : RS) (x1 : Int32) (x2 : Int32) (x3 : Int32) (hB : r_partiesIn_4 k4 s x1 x2 x3 = some (r, s')) : BlkI l yX11_partiesIn wsX11_partiesIn ({ frames := 0, cells := 0, slots := 0, locals := 0 }) cX11_partiesIn 4 (some .int) (dC, dI) (tysA cB cI cJ cZ cS) as 4 (mwS cB cI cJ cZ h a s) [(0, .ref h), (1, .int x1), (2, .int x2), (3, .int x3)] [] (fun x u => x = r ∧ u = (mwS cB cI cJ cZ h a s')) := by
  intro p e s0 m below meth c A E H locs ls hP hD hS hl
  obtain ⟨C, hr, hlocks, hA, hK, hN⟩ := id E
  obtain ⟨hx, hb, hml, hown, hts⟩ := id C
  unfold r_partiesIn_4 at hB
  refine lv_iload_n hx hb dX11_partiesIn_4 rfl (lv_at hl 3 rfl) ?_
  refine lv_aload_n hx hb dX11_partiesIn_5 rfl (lv_at hl 0 rfl) ?_
  refine q_get (v := .ref (a 23)) C inX11_partiesIn_X11 hK hP 0 rfl rfl 23 (by decide) rfl LX11_partiesIn_49 rfl dX11_partiesIn_6 ?_
  refine lv_aload_n hx hb dX11_partiesIn_9 rfl (lv_at hl 0 rfl) ?_
  refine q_get (v := .int (s.v 18)) C inX11_partiesIn_X11 hK hP 0 rfl rfl 18 (by decide) rfl LX11_partiesIn_215 rfl dX11_partiesIn_10 ?_
  obtain ⟨g1, hB⟩ := guard_inv hB
  refine q_iald (x := (s.f 23 (Int32.toNatClampNeg (s.v 18)))) C hK hP 11 1 rfl rfl (vpb_in g1) dX11_partiesIn_13 rfl ?_
  refine lv_icmp_ge (tgt := 42) hx hb dX11_partiesIn_14 (by decide) (fun c2 => ?_) (fun c2 => ?_)
  · have hB := if_p hB c2
    refine lv_iload_n hx hb dX11_partiesIn_42 rfl (lv_at hl 2 rfl) ?_
    exact q_iret C hr hlocks hK hP hD hS (Nat.le_of_ble_eq_true rfl) (Nat.le_of_ble_eq_true rfl) dX11_partiesIn_43 (by cases hB; exact ⟨rfl, rfl⟩)
  · have hB := if_n hB c2
    refine lv_aload_n hx hb dX11_partiesIn_17 rfl (lv_at hl 0 rfl) ?_
    refine q_get (v := .ref (a 44)) C inX11_partiesIn_X11 hK hP 0 rfl rfl 44 (by decide) rfl LX11_partiesIn_101 rfl dX11_partiesIn_18 ?_
    refine lv_bipush (v := 15) hx hb dX11_partiesIn_21 (by decide) ?_
    refine lv_iload_n hx hb dX11_partiesIn_23 rfl (lv_at hl 3 rfl) ?_
    refine lv_iadd hx hb dX11_partiesIn_24 ?_
    obtain ⟨g3, hB⟩ := guard_inv hB
    refine q_iald (x := (s.f 44 (Int32.toNatClampNeg (15 + x3)))) C hK hP 28 1 rfl rfl (vpb_in g3) dX11_partiesIn_25 rfl ?_
    refine lv_iload_n hx hb dX11_partiesIn_26 rfl (lv_at hl 1 rfl) ?_
    refine lv_icmp_ne (tgt := 36) hx hb dX11_partiesIn_27 (by decide) (fun c4 => ?_) (fun c4 => ?_)
    · have hB := if_n hB c4
      exact br_partiesIn_36 (hk4) _ _ _ _ hB p e s0 m below meth c A E H locs ls hP hD hS (lv_sub hl [0, 1, 2, 3] rfl)
    · have hB := if_p hB c4
      refine lv_iload_n hx hb dX11_partiesIn_30 rfl (lv_at hl 2 rfl) ?_
      refine lv_iconst (v := 1) hx hb dX11_partiesIn_31 (by decide) ?_
      refine lv_iload_n hx hb dX11_partiesIn_32 rfl (lv_at hl 3 rfl) ?_
      refine lv_ishl hx hb dX11_partiesIn_33 ?_
      refine lv_ior hx hb dX11_partiesIn_34 ?_
      refine lv_istore_n (lv' := [(2, .int (x2 ||| (1 <<< (x3 &&& 31)))), (0, .ref h), (1, .int x1), (3, .int x3)]) hx hb dX11_partiesIn_35 rfl hl (by decide) rfl (fun ls hl => ?_)
      exact br_partiesIn_36 (hk4) _ _ _ _ hB p e s0 m below meth c A E H locs ls hP hD hS (lv_sub hl [1, 2, 0, 3] rfl)
theorem br_partiesIn_4L {l : Launch} {dC : Nat → ClassId} {dI : Nat → Nat → Nat} {cB cI cJ cZ cS : ClassId} {h : Nat} {a : Nat → Nat} {as : List Value} {r : Int32} {s' : RS} : ∀ (n : Nat) (s : RS) (x1 : Int32) (x2 : Int32) (x3 : Int32), r_partiesIn_4L n s x1 x2 x3 = some (r, s') → BlkI l yX11_partiesIn wsX11_partiesIn ({ frames := 0, cells := 0, slots := 0, locals := 0 }) cX11_partiesIn 4 (some .int) (dC, dI) (tysA cB cI cJ cZ cS) as 4 (mwS cB cI cJ cZ h a s) [(0, .ref h), (1, .int x1), (2, .int x2), (3, .int x3)] [] (fun x u => x = r ∧ u = (mwS cB cI cJ cZ h a s')) := by
  intro n
  induction n with
  | zero => intro s x1 x2 x3 hB; exact none_ne hB
  | succ n ih => intro s x1 x2 x3 hB; exact br_partiesIn_4 ih _ _ _ _ hB
set_option maxHeartbeats 4000000 in
set_option maxRecDepth 100000 in
theorem br_partiesIn {l : Launch} {dC : Nat → ClassId} {dI : Nat → Nat → Nat} {cB cI cJ cZ cS : ClassId} {h : Nat} {a : Nat → Nat} {as : List Value} {r : Int32} {s' : RS} (s : RS) (x1 : Int32) (hB : r_partiesIn s x1 = some (r, s')) : BlkI l yX11_partiesIn wsX11_partiesIn ({ frames := 0, cells := 0, slots := 0, locals := 0 }) cX11_partiesIn 4 (some .int) (dC, dI) (tysA cB cI cJ cZ cS) as 0 (mwS cB cI cJ cZ h a s) [(0, .ref h), (1, .int x1)] [] (fun x u => x = r ∧ u = (mwS cB cI cJ cZ h a s')) := by
  intro p e s0 m below meth c A E H locs ls hP hD hS hl
  obtain ⟨C, hr, hlocks, hA, hK, hN⟩ := id E
  obtain ⟨hx, hb, hml, hown, hts⟩ := id C
  unfold r_partiesIn at hB
  refine lv_iconst (v := 0) hx hb dX11_partiesIn_0 (by decide) ?_
  refine lv_istore_n (lv' := [(2, .int 0), (0, .ref h), (1, .int x1)]) hx hb dX11_partiesIn_1 rfl hl (by decide) rfl (fun ls hl => ?_)
  refine lv_iconst (v := 0) hx hb dX11_partiesIn_2 (by decide) ?_
  refine lv_istore_n (lv' := [(3, .int 0), (2, .int 0), (0, .ref h), (1, .int x1)]) hx hb dX11_partiesIn_3 rfl hl (by decide) rfl (fun ls hl => ?_)
  exact br_partiesIn_4L fu _ _ _ _ hB p e s0 m below meth c A E H locs ls hP hD hS (lv_sub hl [2, 3, 1, 0] rfl)
theorem cr_partiesIn {l : Launch} {dC : Nat → ClassId} {dI : Nat → Nat → Nat} {cB cI cJ cZ cS : ClassId} {h : Nat} {a : Nat → Nat} {r : Int32} {s' : RS} {s : RS} {x1 : Int32} (hB : r_partiesIn s x1 = some (r, s')) : CI l yX11_partiesIn wsX11_partiesIn ({ frames := 0, cells := 0, slots := 0, locals := 0 }) (dC, dI) (tysA cB cI cJ cZ cS) (mwS cB cI cJ cZ h a s) [.ref h, .int x1] (fun x u => x = r ∧ u = (mwS cB cI cJ cZ h a s')) :=
  CI_of (cc := cX11_partiesIn) (maxL := 4) (ret := (some .int)) (by decide) rfl (Nat.le_of_ble_eq_true rfl) (br_partiesIn _ _ hB)
theorem LX11_sumNow_98 : Cond.fieldLink RX11 98 "GuessFerryModel" "now" "[I" ∈ wsX11_sumNow := by decide +kernel
theorem inX11_sumNow_X11 : ∀ w ∈ u_ws RX11 TX11 58, w ∈ wsX11_sumNow := fun _ h => List.mem_cons_of_mem _ (List.mem_append_right _ h)
set_option maxHeartbeats 4000000 in
set_option maxRecDepth 100000 in
theorem br_sumNow_5 {l : Launch} {dC : Nat → ClassId} {dI : Nat → Nat → Nat} {cB cI cJ cZ cS : ClassId} {h : Nat} {a : Nat → Nat} {as : List Value} {r : Int32} {s' : RS} {k5 : RS → Int32 → Int32 → Int32 → Int32 → Option (Int32 × RS)} (hk5 : ∀ (s : RS) (x1 : Int32) (x2 : Int32) (x3 : Int32) (x4 : Int32), k5 s x1 x2 x3 x4 = some (r, s') → BlkI l yX11_sumNow wsX11_sumNow ({ frames := 0, cells := 0, slots := 0, locals := 0 }) cX11_sumNow 5 (some .int) (dC, dI) (tysA cB cI cJ cZ cS) as 5 (mwS cB cI cJ cZ h a s) [(0, .ref h), (1, .int x1), (2, .int x2), (3, .int x3), (4, .int x4)] [] (fun x u => x = r ∧ u = (mwS cB cI cJ cZ h a s'))) (s : RS) (x1 : Int32) (x2 : Int32) (x3 : Int32) (x4 : Int32) (hB : r_sumNow_5 k5 s x1 x2 x3 x4 = some (r, s')) : BlkI l yX11_sumNow wsX11_sumNow ({ frames := 0, cells := 0, slots := 0, locals := 0 }) cX11_sumNow 5 (some .int) (dC, dI) (tysA cB cI cJ cZ cS) as 5 (mwS cB cI cJ cZ h a s) [(0, .ref h), (1, .int x1), (2, .int x2), (3, .int x3), (4, .int x4)] [] (fun x u => x = r ∧ u = (mwS cB cI cJ cZ h a s')) := by
  intro p e s0 m below meth c A E H locs ls hP hD hS hl
  obtain ⟨C, hr, hlocks, hA, hK, hN⟩ := id E
  obtain ⟨hx, hb, hml, hown, hts⟩ := id C
  unfold r_sumNow_5 at hB
  refine lv_iload hx hb dX11_sumNow_5 (lv_at hl 4 rfl) ?_
  refine lv_iload_n hx hb dX11_sumNow_7 rfl (lv_at hl 1 rfl) ?_
  refine lv_iload_n hx hb dX11_sumNow_8 rfl (lv_at hl 2 rfl) ?_
  refine lv_iadd hx hb dX11_sumNow_9 ?_
  refine lv_icmp_ge (tgt := 29) hx hb dX11_sumNow_10 (by decide) (fun c1 => ?_) (fun c1 => ?_)
  · have hB := if_p hB c1
    refine lv_iload_n hx hb dX11_sumNow_29 rfl (lv_at hl 3 rfl) ?_
    exact q_iret C hr hlocks hK hP hD hS (Nat.le_of_ble_eq_true rfl) (Nat.le_of_ble_eq_true rfl) dX11_sumNow_30 (by cases hB; exact ⟨rfl, rfl⟩)
  · have hB := if_n hB c1
    refine lv_iload_n hx hb dX11_sumNow_13 rfl (lv_at hl 3 rfl) ?_
    refine lv_aload_n hx hb dX11_sumNow_14 rfl (lv_at hl 0 rfl) ?_
    refine q_get (v := .ref (a 43)) C inX11_sumNow_X11 hK hP 0 rfl rfl 43 (by decide) rfl LX11_sumNow_98 rfl dX11_sumNow_15 ?_
    refine lv_iload hx hb dX11_sumNow_18 (lv_at hl 4 rfl) ?_
    obtain ⟨g2, hB⟩ := guard_inv hB
    refine q_iald (x := (s.f 43 (Int32.toNatClampNeg x4))) C hK hP 27 1 rfl rfl (vpb_in g2) dX11_sumNow_20 rfl ?_
    refine lv_iadd hx hb dX11_sumNow_21 ?_
    refine lv_istore_n (lv' := [(3, .int (x3 + (s.f 43 (Int32.toNatClampNeg x4)))), (0, .ref h), (1, .int x1), (2, .int x2), (4, .int x4)]) hx hb dX11_sumNow_22 rfl hl (by decide) rfl (fun ls hl => ?_)
    refine lv_iinc (v := (x4 + 1)) (lv' := [(4, .int (x4 + 1)), (3, .int (x3 + (s.f 43 (Int32.toNatClampNeg x4)))), (0, .ref h), (1, .int x1), (2, .int x2)]) hx hb dX11_sumNow_23 hl (k := 4) rfl (rfl) (by decide) rfl (fun ls hl => ?_)
    refine lv_goto (tgt := 5) hx hb dX11_sumNow_26 (by decide) ?_
    exact hk5 _ _ _ _ _ hB p e s0 m below meth c A E H locs ls hP hD hS (lv_sub hl [2, 3, 4, 1, 0] rfl)
theorem br_sumNow_5L {l : Launch} {dC : Nat → ClassId} {dI : Nat → Nat → Nat} {cB cI cJ cZ cS : ClassId} {h : Nat} {a : Nat → Nat} {as : List Value} {r : Int32} {s' : RS} : ∀ (n : Nat) (s : RS) (x1 : Int32) (x2 : Int32) (x3 : Int32) (x4 : Int32), r_sumNow_5L n s x1 x2 x3 x4 = some (r, s') → BlkI l yX11_sumNow wsX11_sumNow ({ frames := 0, cells := 0, slots := 0, locals := 0 }) cX11_sumNow 5 (some .int) (dC, dI) (tysA cB cI cJ cZ cS) as 5 (mwS cB cI cJ cZ h a s) [(0, .ref h), (1, .int x1), (2, .int x2), (3, .int x3), (4, .int x4)] [] (fun x u => x = r ∧ u = (mwS cB cI cJ cZ h a s')) := by
  intro n
  induction n with
  | zero => intro s x1 x2 x3 x4 hB; exact none_ne hB
  | succ n ih => intro s x1 x2 x3 x4 hB; exact br_sumNow_5 ih _ _ _ _ _ hB
set_option maxHeartbeats 4000000 in
set_option maxRecDepth 100000 in
theorem br_sumNow {l : Launch} {dC : Nat → ClassId} {dI : Nat → Nat → Nat} {cB cI cJ cZ cS : ClassId} {h : Nat} {a : Nat → Nat} {as : List Value} {r : Int32} {s' : RS} (s : RS) (x1 : Int32) (x2 : Int32) (hB : r_sumNow s x1 x2 = some (r, s')) : BlkI l yX11_sumNow wsX11_sumNow ({ frames := 0, cells := 0, slots := 0, locals := 0 }) cX11_sumNow 5 (some .int) (dC, dI) (tysA cB cI cJ cZ cS) as 0 (mwS cB cI cJ cZ h a s) [(0, .ref h), (1, .int x1), (2, .int x2)] [] (fun x u => x = r ∧ u = (mwS cB cI cJ cZ h a s')) := by
  intro p e s0 m below meth c A E H locs ls hP hD hS hl
  obtain ⟨C, hr, hlocks, hA, hK, hN⟩ := id E
  obtain ⟨hx, hb, hml, hown, hts⟩ := id C
  unfold r_sumNow at hB
  refine lv_iconst (v := 0) hx hb dX11_sumNow_0 (by decide) ?_
  refine lv_istore_n (lv' := [(3, .int 0), (0, .ref h), (1, .int x1), (2, .int x2)]) hx hb dX11_sumNow_1 rfl hl (by decide) rfl (fun ls hl => ?_)
  refine lv_iload_n hx hb dX11_sumNow_2 rfl (lv_at hl 2 rfl) ?_
  refine lv_istore (lv' := [(4, .int x1), (3, .int 0), (0, .ref h), (1, .int x1), (2, .int x2)]) hx hb dX11_sumNow_3 hl (by decide) rfl (fun ls hl => ?_)
  exact br_sumNow_5L fu _ _ _ _ _ hB p e s0 m below meth c A E H locs ls hP hD hS (lv_sub hl [2, 3, 4, 1, 0] rfl)
theorem cr_sumNow {l : Launch} {dC : Nat → ClassId} {dI : Nat → Nat → Nat} {cB cI cJ cZ cS : ClassId} {h : Nat} {a : Nat → Nat} {r : Int32} {s' : RS} {s : RS} {x1 : Int32} {x2 : Int32} (hB : r_sumNow s x1 x2 = some (r, s')) : CI l yX11_sumNow wsX11_sumNow ({ frames := 0, cells := 0, slots := 0, locals := 0 }) (dC, dI) (tysA cB cI cJ cZ cS) (mwS cB cI cJ cZ h a s) [.ref h, .int x1, .int x2] (fun x u => x = r ∧ u = (mwS cB cI cJ cZ h a s')) :=
  CI_of (cc := cX11_sumNow) (maxL := 5) (ret := (some .int)) (by decide) rfl (Nat.le_of_ble_eq_true rfl) (br_sumNow _ _ _ hB)
theorem LX11_count_101 : Cond.fieldLink RX11 101 "GuessFerryModel" "row" "[I" ∈ wsX11_count := by decide +kernel
theorem LX11_count_128 : Cond.fieldLink RX11 128 "GuessFerryModel" "isHeld" "[Z" ∈ wsX11_count := by decide +kernel
theorem LX11_count_148 : Cond.fieldLink RX11 148 "GuessFerryModel" "taped" "I" ∈ wsX11_count := by decide +kernel
theorem LX11_count_215 : Cond.fieldLink RX11 215 "GuessFerryModel" "live" "I" ∈ wsX11_count := by decide +kernel
theorem LX11_count_230 : Cond.fieldLink RX11 230 "GuessFerryModel" "undos" "I" ∈ wsX11_count := by decide +kernel
theorem LX11_count_233 : Cond.fieldLink RX11 233 "GuessFerryModel" "tolds" "I" ∈ wsX11_count := by decide +kernel
theorem LX11_count_40 : Cond.fieldLink RX11 40 "GuessFerryModel" "waves" "[I" ∈ wsX11_count := by decide +kernel
theorem LX11_count_49 : Cond.fieldLink RX11 49 "GuessFerryModel" "parties" "[I" ∈ wsX11_count := by decide +kernel
theorem inX11_count_X11 : ∀ w ∈ u_ws RX11 TX11 58, w ∈ wsX11_count := by decide +kernel
set_option maxHeartbeats 4000000 in
set_option maxRecDepth 100000 in
theorem br_count_202 {l : Launch} {dC : Nat → ClassId} {dI : Nat → Nat → Nat} {cB cI cJ cZ cS : ClassId} {h : Nat} {a : Nat → Nat} {as : List Value} {r : Int32} {s' : RS} (s : RS) (t0 : Int32) (t1 : Int32) (hB : r_count_202 s t0 t1 = some (r, s')) : BlkI l yX11_count wsX11_count ({ frames := 4, cells := 0, slots := 0, locals := 90 }) cX11_count 4 (some .int) (dC, dI) (tysA cB cI cJ cZ cS) as 202 (mwS cB cI cJ cZ h a s) [(0, .ref h)] [.int t0, .int t1] (fun x u => x = r ∧ u = (mwS cB cI cJ cZ h a s')) := by
  intro p e s0 m below meth c A E H locs ls hP hD hS hl
  obtain ⟨C, hr, hlocks, hA, hK, hN⟩ := id E
  obtain ⟨hx, hb, hml, hown, hts⟩ := id C
  unfold r_count_202 at hB
  refine lv_iadd hx hb dX11_count_202 ?_
  refine lv_aload_n hx hb dX11_count_203 rfl (lv_at hl 0 rfl) ?_
  refine q_get (v := .ref (a 56)) C inX11_count_X11 hK hP 0 rfl rfl 56 (by decide) rfl LX11_count_128 rfl dX11_count_204 ?_
  refine lv_iconst (v := 2) hx hb dX11_count_207 (by decide) ?_
  refine q_zald (x := (s.f 56 2)) C hK hP 37 3 rfl rfl (vp_lit (by decide +kernel)) dX11_count_208 rfl ?_
  refine lv_if_eq (tgt := 216) hx hb dX11_count_209 (by decide) (fun c1 => ?_) (fun c1 => ?_)
  · have hB := if_p hB c1
    refine lv_iconst (v := 0) hx hb dX11_count_216 (by decide) ?_
    refine lv_iadd hx hb dX11_count_217 ?_
    exact q_iret C hr hlocks hK hP hD hS (Nat.le_of_ble_eq_true rfl) (Nat.le_of_ble_eq_true rfl) dX11_count_218 (by cases hB; exact ⟨rfl, rfl⟩)
  · have hB := if_n hB c1
    refine lv_iconst (v := 1) hx hb dX11_count_212 (by decide) ?_
    refine lv_goto (tgt := 217) hx hb dX11_count_213 (by decide) ?_
    refine lv_iadd hx hb dX11_count_217 ?_
    exact q_iret C hr hlocks hK hP hD hS (Nat.le_of_ble_eq_true rfl) (Nat.le_of_ble_eq_true rfl) dX11_count_218 (by cases hB; exact ⟨rfl, rfl⟩)
set_option maxHeartbeats 4000000 in
set_option maxRecDepth 100000 in
theorem br_count_188 {l : Launch} {dC : Nat → ClassId} {dI : Nat → Nat → Nat} {cB cI cJ cZ cS : ClassId} {h : Nat} {a : Nat → Nat} {as : List Value} {r : Int32} {s' : RS} (s : RS) (t0 : Int32) (hB : r_count_188 s t0 = some (r, s')) : BlkI l yX11_count wsX11_count ({ frames := 4, cells := 0, slots := 0, locals := 90 }) cX11_count 4 (some .int) (dC, dI) (tysA cB cI cJ cZ cS) as 188 (mwS cB cI cJ cZ h a s) [(0, .ref h)] [.int t0] (fun x u => x = r ∧ u = (mwS cB cI cJ cZ h a s')) := by
  intro p e s0 m below meth c A E H locs ls hP hD hS hl
  obtain ⟨C, hr, hlocks, hA, hK, hN⟩ := id E
  obtain ⟨hx, hb, hml, hown, hts⟩ := id C
  unfold r_count_188 at hB
  refine lv_aload_n hx hb dX11_count_188 rfl (lv_at hl 0 rfl) ?_
  refine q_get (v := .ref (a 56)) C inX11_count_X11 hK hP 0 rfl rfl 56 (by decide) rfl LX11_count_128 rfl dX11_count_189 ?_
  refine lv_iconst (v := 1) hx hb dX11_count_192 (by decide) ?_
  refine q_zald (x := (s.f 56 1)) C hK hP 37 3 rfl rfl (vp_lit (by decide +kernel)) dX11_count_193 rfl ?_
  refine lv_if_eq (tgt := 201) hx hb dX11_count_194 (by decide) (fun c1 => ?_) (fun c1 => ?_)
  · have hB := if_p hB c1
    refine lv_iconst (v := 0) hx hb dX11_count_201 (by decide) ?_
    exact br_count_202 _ _ _ hB p e s0 m below meth c A E H locs ls hP hD hS (lv_sub hl [0] rfl)
  · have hB := if_n hB c1
    refine lv_iconst (v := 1) hx hb dX11_count_197 (by decide) ?_
    refine lv_goto (tgt := 202) hx hb dX11_count_198 (by decide) ?_
    exact br_count_202 _ _ _ hB p e s0 m below meth c A E H locs ls hP hD hS (lv_sub hl [0] rfl)
set_option maxHeartbeats 4000000 in
set_option maxRecDepth 100000 in
theorem br_count_301 {l : Launch} {dC : Nat → ClassId} {dI : Nat → Nat → Nat} {cB cI cJ cZ cS : ClassId} {h : Nat} {a : Nat → Nat} {as : List Value} {r : Int32} {s' : RS} {k271 : RS → Int32 → Int32 → Option (Int32 × RS)} (hk271 : ∀ (s : RS) (x2 : Int32) (x3 : Int32), k271 s x2 x3 = some (r, s') → BlkI l yX11_count wsX11_count ({ frames := 4, cells := 0, slots := 0, locals := 90 }) cX11_count 4 (some .int) (dC, dI) (tysA cB cI cJ cZ cS) as 271 (mwS cB cI cJ cZ h a s) [(0, .ref h), (2, .int x2), (3, .int x3)] [] (fun x u => x = r ∧ u = (mwS cB cI cJ cZ h a s'))) (s : RS) (x2 : Int32) (x3 : Int32) (hB : r_count_301 k271 s x2 x3 = some (r, s')) : BlkI l yX11_count wsX11_count ({ frames := 4, cells := 0, slots := 0, locals := 90 }) cX11_count 4 (some .int) (dC, dI) (tysA cB cI cJ cZ cS) as 301 (mwS cB cI cJ cZ h a s) [(0, .ref h), (2, .int x2), (3, .int x3)] [] (fun x u => x = r ∧ u = (mwS cB cI cJ cZ h a s')) := by
  intro p e s0 m below meth c A E H locs ls hP hD hS hl
  obtain ⟨C, hr, hlocks, hA, hK, hN⟩ := id E
  obtain ⟨hx, hb, hml, hown, hts⟩ := id C
  unfold r_count_301 at hB
  refine lv_iinc (v := (x3 + 1)) (lv' := [(3, .int (x3 + 1)), (0, .ref h), (2, .int x2)]) hx hb dX11_count_301 hl (k := 2) rfl (rfl) (by decide) rfl (fun ls hl => ?_)
  refine lv_goto (tgt := 271) hx hb dX11_count_304 (by decide) ?_
  exact hk271 _ _ _ hB p e s0 m below meth c A E H locs ls hP hD hS (lv_sub hl [1, 2, 0] rfl)
set_option maxHeartbeats 4000000 in
set_option maxRecDepth 100000 in
theorem br_count_271 {l : Launch} {dC : Nat → ClassId} {dI : Nat → Nat → Nat} {cB cI cJ cZ cS : ClassId} {h : Nat} {a : Nat → Nat} {as : List Value} {r : Int32} {s' : RS} {k271 : RS → Int32 → Int32 → Option (Int32 × RS)} (hk271 : ∀ (s : RS) (x2 : Int32) (x3 : Int32), k271 s x2 x3 = some (r, s') → BlkI l yX11_count wsX11_count ({ frames := 4, cells := 0, slots := 0, locals := 90 }) cX11_count 4 (some .int) (dC, dI) (tysA cB cI cJ cZ cS) as 271 (mwS cB cI cJ cZ h a s) [(0, .ref h), (2, .int x2), (3, .int x3)] [] (fun x u => x = r ∧ u = (mwS cB cI cJ cZ h a s'))) (s : RS) (x2 : Int32) (x3 : Int32) (hB : r_count_271 k271 s x2 x3 = some (r, s')) : BlkI l yX11_count wsX11_count ({ frames := 4, cells := 0, slots := 0, locals := 90 }) cX11_count 4 (some .int) (dC, dI) (tysA cB cI cJ cZ cS) as 271 (mwS cB cI cJ cZ h a s) [(0, .ref h), (2, .int x2), (3, .int x3)] [] (fun x u => x = r ∧ u = (mwS cB cI cJ cZ h a s')) := by
  intro p e s0 m below meth c A E H locs ls hP hD hS hl
  obtain ⟨C, hr, hlocks, hA, hK, hN⟩ := id E
  obtain ⟨hx, hb, hml, hown, hts⟩ := id C
  unfold r_count_271 at hB
  refine lv_iload_n hx hb dX11_count_271 rfl (lv_at hl 2 rfl) ?_
  refine lv_aload_n hx hb dX11_count_272 rfl (lv_at hl 0 rfl) ?_
  refine q_get (v := .ref (a 20)) C inX11_count_X11 hK hP 0 rfl rfl 20 (by decide) rfl LX11_count_40 rfl dX11_count_273 ?_
  refine lv_aload_n hx hb dX11_count_276 rfl (lv_at hl 0 rfl) ?_
  refine q_get (v := .int (s.v 18)) C inX11_count_X11 hK hP 0 rfl rfl 18 (by decide) rfl LX11_count_215 rfl dX11_count_277 ?_
  obtain ⟨g1, hB⟩ := guard_inv hB
  refine q_iald (x := (s.f 20 (Int32.toNatClampNeg (s.v 18)))) C hK hP 8 1 rfl rfl (vpb_in g1) dX11_count_280 rfl ?_
  refine lv_icmp_ge (tgt := 307) hx hb dX11_count_281 (by decide) (fun c2 => ?_) (fun c2 => ?_)
  · have hB := if_p hB c2
    refine lv_iload_n hx hb dX11_count_307 rfl (lv_at hl 1 rfl) ?_
    exact q_iret C hr hlocks hK hP hD hS (Nat.le_of_ble_eq_true rfl) (Nat.le_of_ble_eq_true rfl) dX11_count_308 (by cases hB; exact ⟨rfl, rfl⟩)
  · have hB := if_n hB c2
    refine lv_aload_n hx hb dX11_count_284 rfl (lv_at hl 0 rfl) ?_
    refine q_get (v := .ref (a 44)) C inX11_count_X11 hK hP 0 rfl rfl 44 (by decide) rfl LX11_count_101 rfl dX11_count_285 ?_
    refine lv_iconst (v := 5) hx hb dX11_count_288 (by decide) ?_
    refine lv_iload_n hx hb dX11_count_289 rfl (lv_at hl 2 rfl) ?_
    refine lv_iadd hx hb dX11_count_290 ?_
    obtain ⟨g3, hB⟩ := guard_inv hB
    refine q_iald (x := (s.f 44 (Int32.toNatClampNeg (5 + x3)))) C hK hP 28 1 rfl rfl (vpb_in g3) dX11_count_291 rfl ?_
    refine lv_if_lt (tgt := 301) hx hb dX11_count_292 (by decide) (fun c4 => ?_) (fun c4 => ?_)
    · have hB := if_p hB c4
      exact br_count_301 (hk271) _ _ _ hB p e s0 m below meth c A E H locs ls hP hD hS (lv_sub hl [0, 1, 2] rfl)
    · have hB := if_n hB c4
      refine lv_iload_n hx hb dX11_count_295 rfl (lv_at hl 1 rfl) ?_
      refine lv_iconst (v := 1) hx hb dX11_count_296 (by decide) ?_
      refine lv_iload_n hx hb dX11_count_297 rfl (lv_at hl 2 rfl) ?_
      refine lv_ishl hx hb dX11_count_298 ?_
      refine lv_ior hx hb dX11_count_299 ?_
      refine lv_istore_n (lv' := [(2, .int (x2 ||| (1 <<< (x3 &&& 31)))), (0, .ref h), (3, .int x3)]) hx hb dX11_count_300 rfl hl (by decide) rfl (fun ls hl => ?_)
      exact br_count_301 (hk271) _ _ _ hB p e s0 m below meth c A E H locs ls hP hD hS (lv_sub hl [1, 0, 2] rfl)
theorem br_count_271L {l : Launch} {dC : Nat → ClassId} {dI : Nat → Nat → Nat} {cB cI cJ cZ cS : ClassId} {h : Nat} {a : Nat → Nat} {as : List Value} {r : Int32} {s' : RS} : ∀ (n : Nat) (s : RS) (x2 : Int32) (x3 : Int32), r_count_271L n s x2 x3 = some (r, s') → BlkI l yX11_count wsX11_count ({ frames := 4, cells := 0, slots := 0, locals := 90 }) cX11_count 4 (some .int) (dC, dI) (tysA cB cI cJ cZ cS) as 271 (mwS cB cI cJ cZ h a s) [(0, .ref h), (2, .int x2), (3, .int x3)] [] (fun x u => x = r ∧ u = (mwS cB cI cJ cZ h a s')) := by
  intro n
  induction n with
  | zero => intro s x2 x3 hB; exact none_ne hB
  | succ n ih => intro s x2 x3 hB; exact br_count_271 ih _ _ _ hB
set_option maxHeartbeats 4000000 in
set_option maxRecDepth 100000 in
theorem br_count_356 {l : Launch} {dC : Nat → ClassId} {dI : Nat → Nat → Nat} {cB cI cJ cZ cS : ClassId} {h : Nat} {a : Nat → Nat} {as : List Value} {r : Int32} {s' : RS} {k329 : RS → Int32 → Int32 → Option (Int32 × RS)} (hk329 : ∀ (s : RS) (x2 : Int32) (x3 : Int32), k329 s x2 x3 = some (r, s') → BlkI l yX11_count wsX11_count ({ frames := 4, cells := 0, slots := 0, locals := 90 }) cX11_count 4 (some .int) (dC, dI) (tysA cB cI cJ cZ cS) as 329 (mwS cB cI cJ cZ h a s) [(0, .ref h), (2, .int x2), (3, .int x3)] [] (fun x u => x = r ∧ u = (mwS cB cI cJ cZ h a s'))) (s : RS) (x2 : Int32) (x3 : Int32) (hB : r_count_356 k329 s x2 x3 = some (r, s')) : BlkI l yX11_count wsX11_count ({ frames := 4, cells := 0, slots := 0, locals := 90 }) cX11_count 4 (some .int) (dC, dI) (tysA cB cI cJ cZ cS) as 356 (mwS cB cI cJ cZ h a s) [(0, .ref h), (2, .int x2), (3, .int x3)] [] (fun x u => x = r ∧ u = (mwS cB cI cJ cZ h a s')) := by
  intro p e s0 m below meth c A E H locs ls hP hD hS hl
  obtain ⟨C, hr, hlocks, hA, hK, hN⟩ := id E
  obtain ⟨hx, hb, hml, hown, hts⟩ := id C
  unfold r_count_356 at hB
  refine lv_iinc (v := (x3 + 1)) (lv' := [(3, .int (x3 + 1)), (0, .ref h), (2, .int x2)]) hx hb dX11_count_356 hl (k := 2) rfl (rfl) (by decide) rfl (fun ls hl => ?_)
  refine lv_goto (tgt := 329) hx hb dX11_count_359 (by decide) ?_
  exact hk329 _ _ _ hB p e s0 m below meth c A E H locs ls hP hD hS (lv_sub hl [1, 2, 0] rfl)
set_option maxHeartbeats 4000000 in
set_option maxRecDepth 100000 in
theorem br_count_329 {l : Launch} {dC : Nat → ClassId} {dI : Nat → Nat → Nat} {cB cI cJ cZ cS : ClassId} {h : Nat} {a : Nat → Nat} {as : List Value} {r : Int32} {s' : RS} {k329 : RS → Int32 → Int32 → Option (Int32 × RS)} (hk329 : ∀ (s : RS) (x2 : Int32) (x3 : Int32), k329 s x2 x3 = some (r, s') → BlkI l yX11_count wsX11_count ({ frames := 4, cells := 0, slots := 0, locals := 90 }) cX11_count 4 (some .int) (dC, dI) (tysA cB cI cJ cZ cS) as 329 (mwS cB cI cJ cZ h a s) [(0, .ref h), (2, .int x2), (3, .int x3)] [] (fun x u => x = r ∧ u = (mwS cB cI cJ cZ h a s'))) (s : RS) (x2 : Int32) (x3 : Int32) (hB : r_count_329 k329 s x2 x3 = some (r, s')) : BlkI l yX11_count wsX11_count ({ frames := 4, cells := 0, slots := 0, locals := 90 }) cX11_count 4 (some .int) (dC, dI) (tysA cB cI cJ cZ cS) as 329 (mwS cB cI cJ cZ h a s) [(0, .ref h), (2, .int x2), (3, .int x3)] [] (fun x u => x = r ∧ u = (mwS cB cI cJ cZ h a s')) := by
  intro p e s0 m below meth c A E H locs ls hP hD hS hl
  obtain ⟨C, hr, hlocks, hA, hK, hN⟩ := id E
  obtain ⟨hx, hb, hml, hown, hts⟩ := id C
  unfold r_count_329 at hB
  refine lv_iload_n hx hb dX11_count_329 rfl (lv_at hl 2 rfl) ?_
  refine lv_aload_n hx hb dX11_count_330 rfl (lv_at hl 0 rfl) ?_
  refine q_get (v := .ref (a 20)) C inX11_count_X11 hK hP 0 rfl rfl 20 (by decide) rfl LX11_count_40 rfl dX11_count_331 ?_
  refine lv_aload_n hx hb dX11_count_334 rfl (lv_at hl 0 rfl) ?_
  refine q_get (v := .int (s.v 18)) C inX11_count_X11 hK hP 0 rfl rfl 18 (by decide) rfl LX11_count_215 rfl dX11_count_335 ?_
  obtain ⟨g1, hB⟩ := guard_inv hB
  refine q_iald (x := (s.f 20 (Int32.toNatClampNeg (s.v 18)))) C hK hP 8 1 rfl rfl (vpb_in g1) dX11_count_338 rfl ?_
  refine lv_icmp_ge (tgt := 362) hx hb dX11_count_339 (by decide) (fun c2 => ?_) (fun c2 => ?_)
  · have hB := if_p hB c2
    refine lv_iload_n hx hb dX11_count_362 rfl (lv_at hl 1 rfl) ?_
    exact q_iret C hr hlocks hK hP hD hS (Nat.le_of_ble_eq_true rfl) (Nat.le_of_ble_eq_true rfl) dX11_count_363 (by cases hB; exact ⟨rfl, rfl⟩)
  · have hB := if_n hB c2
    refine lv_aload_n hx hb dX11_count_342 rfl (lv_at hl 0 rfl) ?_
    refine lv_iload_n hx hb dX11_count_343 rfl (lv_at hl 2 rfl) ?_
    obtain ⟨q_, s3, hc, hB⟩ := bindI_inv hB
    refine q_goiF (va_runV (As := [.int x3]) (rest := []) C (cr_mayAt hc _) (cwV 1 hts gX11_count_X11_mayAt rfl rfl rfl (by decide +kernel) ⟨Nat.le_of_ble_eq_true rfl, Nat.le_of_ble_eq_true rfl⟩) (q_preV hK hP (ci := 11) (q0 := 0) rfl rfl rfl (q_preF hN hK hP hD)) rfl rfl hl.1 rfl (lv_room (Nat.le_of_ble_eq_true rfl)) dX11_count_344 ⟨Nat.le_of_ble_eq_true rfl, Nat.le_of_ble_eq_true rfl⟩) hD hS hA (fun r4 w1 H locs hw hP hD hS => ?_)
    obtain ⟨hq_, hw⟩ := hw; subst hw; subst hq_
    refine lv_if_ne (tgt := 356) hx hb dX11_count_347 (by decide) (fun c5 => ?_) (fun c5 => ?_)
    · have hB := if_n hB c5
      exact br_count_356 (hk329) _ _ _ hB p e s0 m below meth c A E H locs ls hP hD hS (lv_sub hl [0, 1, 2] rfl)
    · have hB := if_p hB c5
      refine lv_iload_n hx hb dX11_count_350 rfl (lv_at hl 1 rfl) ?_
      refine lv_iconst (v := 1) hx hb dX11_count_351 (by decide) ?_
      refine lv_iload_n hx hb dX11_count_352 rfl (lv_at hl 2 rfl) ?_
      refine lv_ishl hx hb dX11_count_353 ?_
      refine lv_ior hx hb dX11_count_354 ?_
      refine lv_istore_n (lv' := [(2, .int (x2 ||| (1 <<< (x3 &&& 31)))), (0, .ref h), (3, .int x3)]) hx hb dX11_count_355 rfl hl (by decide) rfl (fun ls hl => ?_)
      exact br_count_356 (hk329) _ _ _ hB p e s0 m below meth c A E H locs ls hP hD hS (lv_sub hl [1, 0, 2] rfl)
theorem br_count_329L {l : Launch} {dC : Nat → ClassId} {dI : Nat → Nat → Nat} {cB cI cJ cZ cS : ClassId} {h : Nat} {a : Nat → Nat} {as : List Value} {r : Int32} {s' : RS} : ∀ (n : Nat) (s : RS) (x2 : Int32) (x3 : Int32), r_count_329L n s x2 x3 = some (r, s') → BlkI l yX11_count wsX11_count ({ frames := 4, cells := 0, slots := 0, locals := 90 }) cX11_count 4 (some .int) (dC, dI) (tysA cB cI cJ cZ cS) as 329 (mwS cB cI cJ cZ h a s) [(0, .ref h), (2, .int x2), (3, .int x3)] [] (fun x u => x = r ∧ u = (mwS cB cI cJ cZ h a s')) := by
  intro n
  induction n with
  | zero => intro s x2 x3 hB; exact none_ne hB
  | succ n ih => intro s x2 x3 hB; exact br_count_329 ih _ _ _ hB
set_option maxHeartbeats 4000000 in
set_option maxRecDepth 100000 in
theorem br_count_395 {l : Launch} {dC : Nat → ClassId} {dI : Nat → Nat → Nat} {cB cI cJ cZ cS : ClassId} {h : Nat} {a : Nat → Nat} {as : List Value} {r : Int32} {s' : RS} {k366 : RS → Int32 → Int32 → Option (Int32 × RS)} (hk366 : ∀ (s : RS) (x2 : Int32) (x3 : Int32), k366 s x2 x3 = some (r, s') → BlkI l yX11_count wsX11_count ({ frames := 4, cells := 0, slots := 0, locals := 90 }) cX11_count 4 (some .int) (dC, dI) (tysA cB cI cJ cZ cS) as 366 (mwS cB cI cJ cZ h a s) [(0, .ref h), (2, .int x2), (3, .int x3)] [] (fun x u => x = r ∧ u = (mwS cB cI cJ cZ h a s'))) (s : RS) (x2 : Int32) (x3 : Int32) (hB : r_count_395 k366 s x2 x3 = some (r, s')) : BlkI l yX11_count wsX11_count ({ frames := 4, cells := 0, slots := 0, locals := 90 }) cX11_count 4 (some .int) (dC, dI) (tysA cB cI cJ cZ cS) as 395 (mwS cB cI cJ cZ h a s) [(0, .ref h), (2, .int x2), (3, .int x3)] [] (fun x u => x = r ∧ u = (mwS cB cI cJ cZ h a s')) := by
  intro p e s0 m below meth c A E H locs ls hP hD hS hl
  obtain ⟨C, hr, hlocks, hA, hK, hN⟩ := id E
  obtain ⟨hx, hb, hml, hown, hts⟩ := id C
  unfold r_count_395 at hB
  refine lv_iinc (v := (x3 + 1)) (lv' := [(3, .int (x3 + 1)), (0, .ref h), (2, .int x2)]) hx hb dX11_count_395 hl (k := 2) rfl (rfl) (by decide) rfl (fun ls hl => ?_)
  refine lv_goto (tgt := 366) hx hb dX11_count_398 (by decide) ?_
  exact hk366 _ _ _ hB p e s0 m below meth c A E H locs ls hP hD hS (lv_sub hl [1, 2, 0] rfl)
set_option maxHeartbeats 4000000 in
set_option maxRecDepth 100000 in
theorem br_count_366 {l : Launch} {dC : Nat → ClassId} {dI : Nat → Nat → Nat} {cB cI cJ cZ cS : ClassId} {h : Nat} {a : Nat → Nat} {as : List Value} {r : Int32} {s' : RS} {k366 : RS → Int32 → Int32 → Option (Int32 × RS)} (hk366 : ∀ (s : RS) (x2 : Int32) (x3 : Int32), k366 s x2 x3 = some (r, s') → BlkI l yX11_count wsX11_count ({ frames := 4, cells := 0, slots := 0, locals := 90 }) cX11_count 4 (some .int) (dC, dI) (tysA cB cI cJ cZ cS) as 366 (mwS cB cI cJ cZ h a s) [(0, .ref h), (2, .int x2), (3, .int x3)] [] (fun x u => x = r ∧ u = (mwS cB cI cJ cZ h a s'))) (s : RS) (x2 : Int32) (x3 : Int32) (hB : r_count_366 k366 s x2 x3 = some (r, s')) : BlkI l yX11_count wsX11_count ({ frames := 4, cells := 0, slots := 0, locals := 90 }) cX11_count 4 (some .int) (dC, dI) (tysA cB cI cJ cZ cS) as 366 (mwS cB cI cJ cZ h a s) [(0, .ref h), (2, .int x2), (3, .int x3)] [] (fun x u => x = r ∧ u = (mwS cB cI cJ cZ h a s')) := by
  intro p e s0 m below meth c A E H locs ls hP hD hS hl
  obtain ⟨C, hr, hlocks, hA, hK, hN⟩ := id E
  obtain ⟨hx, hb, hml, hown, hts⟩ := id C
  unfold r_count_366 at hB
  refine lv_iload_n hx hb dX11_count_366 rfl (lv_at hl 2 rfl) ?_
  refine lv_aload_n hx hb dX11_count_367 rfl (lv_at hl 0 rfl) ?_
  refine q_get (v := .ref (a 23)) C inX11_count_X11 hK hP 0 rfl rfl 23 (by decide) rfl LX11_count_49 rfl dX11_count_368 ?_
  refine lv_aload_n hx hb dX11_count_371 rfl (lv_at hl 0 rfl) ?_
  refine q_get (v := .int (s.v 18)) C inX11_count_X11 hK hP 0 rfl rfl 18 (by decide) rfl LX11_count_215 rfl dX11_count_372 ?_
  obtain ⟨g1, hB⟩ := guard_inv hB
  refine q_iald (x := (s.f 23 (Int32.toNatClampNeg (s.v 18)))) C hK hP 11 1 rfl rfl (vpb_in g1) dX11_count_375 rfl ?_
  refine lv_icmp_ge (tgt := 401) hx hb dX11_count_376 (by decide) (fun c2 => ?_) (fun c2 => ?_)
  · have hB := if_p hB c2
    refine lv_iload_n hx hb dX11_count_401 rfl (lv_at hl 1 rfl) ?_
    exact q_iret C hr hlocks hK hP hD hS (Nat.le_of_ble_eq_true rfl) (Nat.le_of_ble_eq_true rfl) dX11_count_402 (by cases hB; exact ⟨rfl, rfl⟩)
  · have hB := if_n hB c2
    refine lv_aload_n hx hb dX11_count_379 rfl (lv_at hl 0 rfl) ?_
    refine lv_iload_n hx hb dX11_count_380 rfl (lv_at hl 2 rfl) ?_
    obtain ⟨q_, s3, hc, hB⟩ := bindI_inv hB
    refine q_goiF (va_runV (As := [.int x3]) (rest := []) C (cr_isHere hc _) (cwV 1 hts gX11_count_X11_isHere rfl rfl rfl (by decide +kernel) ⟨Nat.le_of_ble_eq_true rfl, Nat.le_of_ble_eq_true rfl⟩) (q_preV hK hP (ci := 11) (q0 := 0) rfl rfl rfl (q_preF hN hK hP hD)) rfl rfl hl.1 rfl (lv_room (Nat.le_of_ble_eq_true rfl)) dX11_count_381 ⟨Nat.le_of_ble_eq_true rfl, Nat.le_of_ble_eq_true rfl⟩) hD hS hA (fun r4 w1 H locs hw hP hD hS => ?_)
    obtain ⟨hq_, hw⟩ := hw; subst hw; subst hq_
    refine lv_if_eq (tgt := 395) hx hb dX11_count_384 (by decide) (fun c5 => ?_) (fun c5 => ?_)
    · have hB := if_p hB c5
      exact br_count_395 (hk366) _ _ _ hB p e s0 m below meth c A E H locs ls hP hD hS (lv_sub hl [0, 1, 2] rfl)
    · have hB := if_n hB c5
      refine lv_iload_n hx hb dX11_count_387 rfl (lv_at hl 1 rfl) ?_
      refine lv_aload_n hx hb dX11_count_388 rfl (lv_at hl 0 rfl) ?_
      refine lv_iload_n hx hb dX11_count_389 rfl (lv_at hl 2 rfl) ?_
      obtain ⟨q_, s6, hc, hB⟩ := bindI_inv hB
      refine q_goiF (va_runV (As := [.int x3]) (rest := [.int x2]) C (cr_faresOf hc _) (cwV 1 hts gX11_count_X11_faresOf rfl rfl rfl (by decide +kernel) ⟨Nat.le_of_ble_eq_true rfl, Nat.le_of_ble_eq_true rfl⟩) (q_preV hK hP (ci := 11) (q0 := 0) rfl rfl rfl (q_preF hN hK hP hD)) rfl rfl hl.1 rfl (lv_room (Nat.le_of_ble_eq_true rfl)) dX11_count_390 ⟨Nat.le_of_ble_eq_true rfl, Nat.le_of_ble_eq_true rfl⟩) hD hS hA (fun r7 w1 H locs hw hP hD hS => ?_)
      obtain ⟨hq_, hw⟩ := hw; subst hw; subst hq_
      refine lv_iadd hx hb dX11_count_393 ?_
      refine lv_istore_n (lv' := [(2, .int (x2 + r7)), (0, .ref h), (3, .int x3)]) hx hb dX11_count_394 rfl hl (by decide) rfl (fun ls hl => ?_)
      exact br_count_395 (hk366) _ _ _ hB p e s0 m below meth c A E H locs ls hP hD hS (lv_sub hl [1, 0, 2] rfl)
theorem br_count_366L {l : Launch} {dC : Nat → ClassId} {dI : Nat → Nat → Nat} {cB cI cJ cZ cS : ClassId} {h : Nat} {a : Nat → Nat} {as : List Value} {r : Int32} {s' : RS} : ∀ (n : Nat) (s : RS) (x2 : Int32) (x3 : Int32), r_count_366L n s x2 x3 = some (r, s') → BlkI l yX11_count wsX11_count ({ frames := 4, cells := 0, slots := 0, locals := 90 }) cX11_count 4 (some .int) (dC, dI) (tysA cB cI cJ cZ cS) as 366 (mwS cB cI cJ cZ h a s) [(0, .ref h), (2, .int x2), (3, .int x3)] [] (fun x u => x = r ∧ u = (mwS cB cI cJ cZ h a s')) := by
  intro n
  induction n with
  | zero => intro s x2 x3 hB; exact none_ne hB
  | succ n ih => intro s x2 x3 hB; exact br_count_366 ih _ _ _ hB
set_option maxHeartbeats 4000000 in
set_option maxRecDepth 100000 in
theorem br_count {l : Launch} {dC : Nat → ClassId} {dI : Nat → Nat → Nat} {cB cI cJ cZ cS : ClassId} {h : Nat} {a : Nat → Nat} {as : List Value} {r : Int32} {s' : RS} (s : RS) (x1 : Int32) (hB : r_count s x1 = some (r, s')) : BlkI l yX11_count wsX11_count ({ frames := 4, cells := 0, slots := 0, locals := 90 }) cX11_count 4 (some .int) (dC, dI) (tysA cB cI cJ cZ cS) as 0 (mwS cB cI cJ cZ h a s) [(0, .ref h), (1, .int x1)] [] (fun x u => x = r ∧ u = (mwS cB cI cJ cZ h a s')) := by
  intro p e s0 m below meth c A E H locs ls hP hD hS hl
  obtain ⟨C, hr, hlocks, hA, hK, hN⟩ := id E
  obtain ⟨hx, hb, hml, hown, hts⟩ := id C
  unfold r_count at hB
  refine lv_aload_n hx hb dX11_count_0 rfl (lv_at hl 0 rfl) ?_
  obtain ⟨s1, hc, hB⟩ := bindP_inv hB
  refine q_govF (va_runV (As := []) (rest := []) C (cr_copies hc _) (cwV 0 hts gX11_count_X11_copies rfl rfl rfl (by decide +kernel) ⟨Nat.le_of_ble_eq_true rfl, Nat.le_of_ble_eq_true rfl⟩) (q_preV hK hP (ci := 11) (q0 := 0) rfl rfl rfl (q_preF hN hK hP hD)) rfl rfl hl.1 rfl (lv_room (Nat.le_of_ble_eq_true rfl)) dX11_count_1 ⟨Nat.le_of_ble_eq_true rfl, Nat.le_of_ble_eq_true rfl⟩) hD hS hA (fun w1 H locs hw hP hD hS => ?_)
  subst hw
  refine lv_iconst (v := 0) hx hb dX11_count_4 (by decide) ?_
  refine lv_istore_n (lv' := [(2, .int 0), (0, .ref h), (1, .int x1)]) hx hb dX11_count_5 rfl hl (by decide) rfl (fun ls hl => ?_)
  refine lv_iload_n hx hb dX11_count_6 rfl (lv_at hl 2 rfl) ?_
  by_cases e2 : x1 = 0
  · have hB := if_p hB e2
    refine q_top (y := 0) e2 ?_
    refine lv_tableIn (off := 89) (tgt := 96) hx hb dX11_count_7 (by decide +kernel) (by decide +kernel) (by decide +kernel) (by decide) ?_
    refine lv_aload_n hx hb dX11_count_96 rfl (lv_at hl 1 rfl) ?_
    refine q_get (v := .ref (a 20)) C inX11_count_X11 hK hP 0 rfl rfl 20 (by decide) rfl LX11_count_40 rfl dX11_count_97 ?_
    refine lv_aload_n hx hb dX11_count_100 rfl (lv_at hl 1 rfl) ?_
    refine q_get (v := .int (s1.v 18)) C inX11_count_X11 hK hP 0 rfl rfl 18 (by decide) rfl LX11_count_215 rfl dX11_count_101 ?_
    obtain ⟨g3, hB⟩ := guard_inv hB
    refine q_iald (x := (s1.f 20 (Int32.toNatClampNeg (s1.v 18)))) C hK hP 8 1 rfl rfl (vpb_in g3) dX11_count_104 rfl ?_
    exact q_iret C hr hlocks hK hP hD hS (Nat.le_of_ble_eq_true rfl) (Nat.le_of_ble_eq_true rfl) dX11_count_105 (by cases hB; exact ⟨rfl, rfl⟩)
  · have hB := if_n hB e2
    by_cases e4 : x1 = 1
    · have hB := if_p hB e4
      refine q_top (y := 1) e4 ?_
      refine lv_tableIn (off := 99) (tgt := 106) hx hb dX11_count_7 (by decide +kernel) (by decide +kernel) (by decide +kernel) (by decide) ?_
      refine lv_aload_n hx hb dX11_count_106 rfl (lv_at hl 1 rfl) ?_
      refine q_get (v := .ref (a 23)) C inX11_count_X11 hK hP 0 rfl rfl 23 (by decide) rfl LX11_count_49 rfl dX11_count_107 ?_
      refine lv_aload_n hx hb dX11_count_110 rfl (lv_at hl 1 rfl) ?_
      refine q_get (v := .int (s1.v 18)) C inX11_count_X11 hK hP 0 rfl rfl 18 (by decide) rfl LX11_count_215 rfl dX11_count_111 ?_
      obtain ⟨g5, hB⟩ := guard_inv hB
      refine q_iald (x := (s1.f 23 (Int32.toNatClampNeg (s1.v 18)))) C hK hP 11 1 rfl rfl (vpb_in g5) dX11_count_114 rfl ?_
      exact q_iret C hr hlocks hK hP hD hS (Nat.le_of_ble_eq_true rfl) (Nat.le_of_ble_eq_true rfl) dX11_count_115 (by cases hB; exact ⟨rfl, rfl⟩)
    · have hB := if_n hB e4
      by_cases e6 : x1 = 2
      · have hB := if_p hB e6
        refine q_top (y := 2) e6 ?_
        refine lv_tableIn (off := 109) (tgt := 116) hx hb dX11_count_7 (by decide +kernel) (by decide +kernel) (by decide +kernel) (by decide) ?_
        refine lv_aload_n hx hb dX11_count_116 rfl (lv_at hl 1 rfl) ?_
        refine q_get (v := .ref (a 44)) C inX11_count_X11 hK hP 0 rfl rfl 44 (by decide) rfl LX11_count_101 rfl dX11_count_117 ?_
        refine lv_bipush (v := 27) hx hb dX11_count_120 (by decide) ?_
        refine q_iald (x := (s1.f 44 27)) C hK hP 28 1 rfl rfl (vp_lit (by decide +kernel)) dX11_count_122 rfl ?_
        exact q_iret C hr hlocks hK hP hD hS (Nat.le_of_ble_eq_true rfl) (Nat.le_of_ble_eq_true rfl) dX11_count_123 (by cases hB; exact ⟨rfl, rfl⟩)
      · have hB := if_n hB e6
        by_cases e7 : x1 = 3
        · have hB := if_p hB e7
          refine q_top (y := 3) e7 ?_
          refine lv_tableIn (off := 117) (tgt := 124) hx hb dX11_count_7 (by decide +kernel) (by decide +kernel) (by decide +kernel) (by decide) ?_
          refine lv_aload_n hx hb dX11_count_124 rfl (lv_at hl 1 rfl) ?_
          refine q_get (v := .ref (a 44)) C inX11_count_X11 hK hP 0 rfl rfl 44 (by decide) rfl LX11_count_101 rfl dX11_count_125 ?_
          refine lv_bipush (v := 28) hx hb dX11_count_128 (by decide) ?_
          refine q_iald (x := (s1.f 44 28)) C hK hP 28 1 rfl rfl (vp_lit (by decide +kernel)) dX11_count_130 rfl ?_
          exact q_iret C hr hlocks hK hP hD hS (Nat.le_of_ble_eq_true rfl) (Nat.le_of_ble_eq_true rfl) dX11_count_131 (by cases hB; exact ⟨rfl, rfl⟩)
        · have hB := if_n hB e7
          by_cases e8 : x1 = 4
          · have hB := if_p hB e8
            refine q_top (y := 4) e8 ?_
            refine lv_tableIn (off := 125) (tgt := 132) hx hb dX11_count_7 (by decide +kernel) (by decide +kernel) (by decide +kernel) (by decide) ?_
            refine lv_aload_n hx hb dX11_count_132 rfl (lv_at hl 1 rfl) ?_
            refine lv_iconst (v := 0) hx hb dX11_count_133 (by decide) ?_
            obtain ⟨q_, s9, hc, hB⟩ := bindI_inv hB
            refine q_goiF (va_runV (As := [.int 0]) (rest := []) C (cr_partiesIn hc _) (cwV 1 hts gX11_count_X11_partiesIn rfl rfl rfl (by decide +kernel) ⟨Nat.le_of_ble_eq_true rfl, Nat.le_of_ble_eq_true rfl⟩) (q_preV hK hP (ci := 11) (q0 := 0) rfl rfl rfl (q_preF hN hK hP hD)) rfl rfl hl.1 rfl (lv_room (Nat.le_of_ble_eq_true rfl)) dX11_count_134 ⟨Nat.le_of_ble_eq_true rfl, Nat.le_of_ble_eq_true rfl⟩) hD hS hA (fun r10 w1 H locs hw hP hD hS => ?_)
            obtain ⟨hq_, hw⟩ := hw; subst hw; subst hq_
            exact q_iret C hr hlocks hK hP hD hS (Nat.le_of_ble_eq_true rfl) (Nat.le_of_ble_eq_true rfl) dX11_count_137 (by cases hB; exact ⟨rfl, rfl⟩)
          · have hB := if_n hB e8
            by_cases e11 : x1 = 5
            · have hB := if_p hB e11
              refine q_top (y := 5) e11 ?_
              refine lv_tableIn (off := 131) (tgt := 138) hx hb dX11_count_7 (by decide +kernel) (by decide +kernel) (by decide +kernel) (by decide) ?_
              refine lv_aload_n hx hb dX11_count_138 rfl (lv_at hl 1 rfl) ?_
              refine lv_iconst (v := 1) hx hb dX11_count_139 (by decide) ?_
              obtain ⟨q_, s12, hc, hB⟩ := bindI_inv hB
              refine q_goiF (va_runV (As := [.int 1]) (rest := []) C (cr_partiesIn hc _) (cwV 1 hts gX11_count_X11_partiesIn rfl rfl rfl (by decide +kernel) ⟨Nat.le_of_ble_eq_true rfl, Nat.le_of_ble_eq_true rfl⟩) (q_preV hK hP (ci := 11) (q0 := 0) rfl rfl rfl (q_preF hN hK hP hD)) rfl rfl hl.1 rfl (lv_room (Nat.le_of_ble_eq_true rfl)) dX11_count_140 ⟨Nat.le_of_ble_eq_true rfl, Nat.le_of_ble_eq_true rfl⟩) hD hS hA (fun r13 w1 H locs hw hP hD hS => ?_)
              obtain ⟨hq_, hw⟩ := hw; subst hw; subst hq_
              exact q_iret C hr hlocks hK hP hD hS (Nat.le_of_ble_eq_true rfl) (Nat.le_of_ble_eq_true rfl) dX11_count_143 (by cases hB; exact ⟨rfl, rfl⟩)
            · have hB := if_n hB e11
              by_cases e14 : x1 = 6
              · have hB := if_p hB e14
                refine q_top (y := 6) e14 ?_
                refine lv_tableIn (off := 137) (tgt := 144) hx hb dX11_count_7 (by decide +kernel) (by decide +kernel) (by decide +kernel) (by decide) ?_
                refine lv_aload_n hx hb dX11_count_144 rfl (lv_at hl 1 rfl) ?_
                refine lv_iconst (v := 2) hx hb dX11_count_145 (by decide) ?_
                obtain ⟨q_, s15, hc, hB⟩ := bindI_inv hB
                refine q_goiF (va_runV (As := [.int 2]) (rest := []) C (cr_partiesIn hc _) (cwV 1 hts gX11_count_X11_partiesIn rfl rfl rfl (by decide +kernel) ⟨Nat.le_of_ble_eq_true rfl, Nat.le_of_ble_eq_true rfl⟩) (q_preV hK hP (ci := 11) (q0 := 0) rfl rfl rfl (q_preF hN hK hP hD)) rfl rfl hl.1 rfl (lv_room (Nat.le_of_ble_eq_true rfl)) dX11_count_146 ⟨Nat.le_of_ble_eq_true rfl, Nat.le_of_ble_eq_true rfl⟩) hD hS hA (fun r16 w1 H locs hw hP hD hS => ?_)
                obtain ⟨hq_, hw⟩ := hw; subst hw; subst hq_
                exact q_iret C hr hlocks hK hP hD hS (Nat.le_of_ble_eq_true rfl) (Nat.le_of_ble_eq_true rfl) dX11_count_149 (by cases hB; exact ⟨rfl, rfl⟩)
              · have hB := if_n hB e14
                by_cases e17 : x1 = 7
                · have hB := if_p hB e17
                  refine q_top (y := 7) e17 ?_
                  refine lv_tableIn (off := 143) (tgt := 150) hx hb dX11_count_7 (by decide +kernel) (by decide +kernel) (by decide +kernel) (by decide) ?_
                  refine lv_aload_n hx hb dX11_count_150 rfl (lv_at hl 1 rfl) ?_
                  refine lv_bipush (v := 21) hx hb dX11_count_151 (by decide) ?_
                  refine lv_bipush (v := 6) hx hb dX11_count_153 (by decide) ?_
                  obtain ⟨q_, s18, hc, hB⟩ := bindI_inv hB
                  refine q_goiF (va_runV (As := [.int 21, .int 6]) (rest := []) C (cr_sumNow hc _) (cwV 2 hts gX11_count_X11_sumNow rfl rfl rfl (by decide +kernel) ⟨Nat.le_of_ble_eq_true rfl, Nat.le_of_ble_eq_true rfl⟩) (q_preV hK hP (ci := 11) (q0 := 0) rfl rfl rfl (q_preF hN hK hP hD)) rfl rfl hl.1 rfl (lv_room (Nat.le_of_ble_eq_true rfl)) dX11_count_155 ⟨Nat.le_of_ble_eq_true rfl, Nat.le_of_ble_eq_true rfl⟩) hD hS hA (fun r19 w1 H locs hw hP hD hS => ?_)
                  obtain ⟨hq_, hw⟩ := hw; subst hw; subst hq_
                  exact q_iret C hr hlocks hK hP hD hS (Nat.le_of_ble_eq_true rfl) (Nat.le_of_ble_eq_true rfl) dX11_count_158 (by cases hB; exact ⟨rfl, rfl⟩)
                · have hB := if_n hB e17
                  by_cases e20 : x1 = 8
                  · have hB := if_p hB e20
                    refine q_top (y := 8) e20 ?_
                    refine lv_tableIn (off := 152) (tgt := 159) hx hb dX11_count_7 (by decide +kernel) (by decide +kernel) (by decide +kernel) (by decide) ?_
                    refine lv_aload_n hx hb dX11_count_159 rfl (lv_at hl 1 rfl) ?_
                    refine q_get (v := .int (s1.v 2)) C inX11_count_X11 hK hP 0 rfl rfl 2 (by decide) rfl LX11_count_148 rfl dX11_count_160 ?_
                    exact q_iret C hr hlocks hK hP hD hS (Nat.le_of_ble_eq_true rfl) (Nat.le_of_ble_eq_true rfl) dX11_count_163 (by cases hB; exact ⟨rfl, rfl⟩)
                  · have hB := if_n hB e20
                    by_cases e21 : x1 = 9
                    · have hB := if_p hB e21
                      refine q_top (y := 9) e21 ?_
                      refine lv_tableIn (off := 157) (tgt := 164) hx hb dX11_count_7 (by decide +kernel) (by decide +kernel) (by decide +kernel) (by decide) ?_
                      refine lv_aload_n hx hb dX11_count_164 rfl (lv_at hl 1 rfl) ?_
                      refine q_get (v := .int (s1.v 48)) C inX11_count_X11 hK hP 0 rfl rfl 48 (by decide) rfl LX11_count_230 rfl dX11_count_165 ?_
                      exact q_iret C hr hlocks hK hP hD hS (Nat.le_of_ble_eq_true rfl) (Nat.le_of_ble_eq_true rfl) dX11_count_168 (by cases hB; exact ⟨rfl, rfl⟩)
                    · have hB := if_n hB e21
                      by_cases e22 : x1 = 10
                      · have hB := if_p hB e22
                        refine q_top (y := 10) e22 ?_
                        refine lv_tableIn (off := 162) (tgt := 169) hx hb dX11_count_7 (by decide +kernel) (by decide +kernel) (by decide +kernel) (by decide) ?_
                        refine lv_aload_n hx hb dX11_count_169 rfl (lv_at hl 1 rfl) ?_
                        refine q_get (v := .int (s1.v 51)) C inX11_count_X11 hK hP 0 rfl rfl 51 (by decide) rfl LX11_count_233 rfl dX11_count_170 ?_
                        exact q_iret C hr hlocks hK hP hD hS (Nat.le_of_ble_eq_true rfl) (Nat.le_of_ble_eq_true rfl) dX11_count_173 (by cases hB; exact ⟨rfl, rfl⟩)
                      · have hB := if_n hB e22
                        by_cases e23 : x1 = 11
                        · have hB := if_p hB e23
                          refine q_top (y := 11) e23 ?_
                          refine lv_tableIn (off := 167) (tgt := 174) hx hb dX11_count_7 (by decide +kernel) (by decide +kernel) (by decide +kernel) (by decide) ?_
                          refine lv_aload_n hx hb dX11_count_174 rfl (lv_at hl 1 rfl) ?_
                          refine q_get (v := .ref (a 56)) C inX11_count_X11 hK hP 0 rfl rfl 56 (by decide) rfl LX11_count_128 rfl dX11_count_175 ?_
                          refine lv_iconst (v := 0) hx hb dX11_count_178 (by decide) ?_
                          refine q_zald (x := (s1.f 56 0)) C hK hP 37 3 rfl rfl (vp_lit (by decide +kernel)) dX11_count_179 rfl ?_
                          refine lv_if_eq (tgt := 187) hx hb dX11_count_180 (by decide) (fun c24 => ?_) (fun c24 => ?_)
                          · have hB := if_p hB c24
                            refine lv_iconst (v := 0) hx hb dX11_count_187 (by decide) ?_
                            exact br_count_188 _ _ hB p e s0 m below meth c A E H locs ls hP hD hS (lv_sub hl [1] rfl)
                          · have hB := if_n hB c24
                            refine lv_iconst (v := 1) hx hb dX11_count_183 (by decide) ?_
                            refine lv_goto (tgt := 188) hx hb dX11_count_184 (by decide) ?_
                            exact br_count_188 _ _ hB p e s0 m below meth c A E H locs ls hP hD hS (lv_sub hl [1] rfl)
                        · have hB := if_n hB e23
                          by_cases e25 : x1 = 12
                          · have hB := if_p hB e25
                            refine q_top (y := 12) e25 ?_
                            refine lv_tableIn (off := 212) (tgt := 219) hx hb dX11_count_7 (by decide +kernel) (by decide +kernel) (by decide +kernel) (by decide) ?_
                            refine lv_aload_n hx hb dX11_count_219 rfl (lv_at hl 1 rfl) ?_
                            refine q_get (v := .ref (a 44)) C inX11_count_X11 hK hP 0 rfl rfl 44 (by decide) rfl LX11_count_101 rfl dX11_count_220 ?_
                            refine lv_iconst (v := 0) hx hb dX11_count_223 (by decide) ?_
                            refine q_iald (x := (s1.f 44 0)) C hK hP 28 1 rfl rfl (vp_lit (by decide +kernel)) dX11_count_224 rfl ?_
                            obtain ⟨q_, hc, hB⟩ := bindP_inv hB
                            refine q_goi0 (va_runS (As := [.int (s1.f 44 0)]) (rest := []) C (cr_bits hc _) (va_cwS 1 hts gX11_count_X11_bits rfl rfl rfl (by decide +kernel) ⟨Nat.le_of_ble_eq_true rfl, Nat.le_of_ble_eq_true rfl⟩) (q_pre0 hN hK) rfl rfl hl.1 rfl (lv_room (Nat.le_of_ble_eq_true rfl)) dX11_count_225 ⟨Nat.le_of_ble_eq_true rfl, Nat.le_of_ble_eq_true rfl⟩) hP hD hS hA (fun r26 w1 H locs hw hP hS => ?_)
                            subst hw
                            refine lv_aload_n hx hb dX11_count_228 rfl (lv_at hl 1 rfl) ?_
                            refine q_get (v := .ref (a 44)) C inX11_count_X11 hK hP 0 rfl rfl 44 (by decide) rfl LX11_count_101 rfl dX11_count_229 ?_
                            refine lv_iconst (v := 1) hx hb dX11_count_232 (by decide) ?_
                            refine q_iald (x := (s1.f 44 1)) C hK hP 28 1 rfl rfl (vp_lit (by decide +kernel)) dX11_count_233 rfl ?_
                            obtain ⟨q_, hc, hB⟩ := bindP_inv hB
                            refine q_goi0 (va_runS (As := [.int (s1.f 44 1)]) (rest := [.int r26]) C (cr_bits hc _) (va_cwS 1 hts gX11_count_X11_bits rfl rfl rfl (by decide +kernel) ⟨Nat.le_of_ble_eq_true rfl, Nat.le_of_ble_eq_true rfl⟩) (q_pre0 hN hK) rfl rfl hl.1 rfl (lv_room (Nat.le_of_ble_eq_true rfl)) dX11_count_234 ⟨Nat.le_of_ble_eq_true rfl, Nat.le_of_ble_eq_true rfl⟩) hP hD hS hA (fun r27 w1 H locs hw hP hS => ?_)
                            subst hw
                            refine lv_iadd hx hb dX11_count_237 ?_
                            refine lv_aload_n hx hb dX11_count_238 rfl (lv_at hl 1 rfl) ?_
                            refine q_get (v := .ref (a 44)) C inX11_count_X11 hK hP 0 rfl rfl 44 (by decide) rfl LX11_count_101 rfl dX11_count_239 ?_
                            refine lv_iconst (v := 2) hx hb dX11_count_242 (by decide) ?_
                            refine q_iald (x := (s1.f 44 2)) C hK hP 28 1 rfl rfl (vp_lit (by decide +kernel)) dX11_count_243 rfl ?_
                            obtain ⟨q_, hc, hB⟩ := bindP_inv hB
                            refine q_goi0 (va_runS (As := [.int (s1.f 44 2)]) (rest := [.int (r26 + r27)]) C (cr_bits hc _) (va_cwS 1 hts gX11_count_X11_bits rfl rfl rfl (by decide +kernel) ⟨Nat.le_of_ble_eq_true rfl, Nat.le_of_ble_eq_true rfl⟩) (q_pre0 hN hK) rfl rfl hl.1 rfl (lv_room (Nat.le_of_ble_eq_true rfl)) dX11_count_244 ⟨Nat.le_of_ble_eq_true rfl, Nat.le_of_ble_eq_true rfl⟩) hP hD hS hA (fun r28 w1 H locs hw hP hS => ?_)
                            subst hw
                            refine lv_iadd hx hb dX11_count_247 ?_
                            refine lv_aload_n hx hb dX11_count_248 rfl (lv_at hl 1 rfl) ?_
                            refine q_get (v := .ref (a 44)) C inX11_count_X11 hK hP 0 rfl rfl 44 (by decide) rfl LX11_count_101 rfl dX11_count_249 ?_
                            refine lv_iconst (v := 3) hx hb dX11_count_252 (by decide) ?_
                            refine q_iald (x := (s1.f 44 3)) C hK hP 28 1 rfl rfl (vp_lit (by decide +kernel)) dX11_count_253 rfl ?_
                            obtain ⟨q_, hc, hB⟩ := bindP_inv hB
                            refine q_goi0 (va_runS (As := [.int (s1.f 44 3)]) (rest := [.int ((r26 + r27) + r28)]) C (cr_bits hc _) (va_cwS 1 hts gX11_count_X11_bits rfl rfl rfl (by decide +kernel) ⟨Nat.le_of_ble_eq_true rfl, Nat.le_of_ble_eq_true rfl⟩) (q_pre0 hN hK) rfl rfl hl.1 rfl (lv_room (Nat.le_of_ble_eq_true rfl)) dX11_count_254 ⟨Nat.le_of_ble_eq_true rfl, Nat.le_of_ble_eq_true rfl⟩) hP hD hS hA (fun r29 w1 H locs hw hP hS => ?_)
                            subst hw
                            refine lv_iadd hx hb dX11_count_257 ?_
                            refine lv_aload_n hx hb dX11_count_258 rfl (lv_at hl 1 rfl) ?_
                            refine q_get (v := .ref (a 44)) C inX11_count_X11 hK hP 0 rfl rfl 44 (by decide) rfl LX11_count_101 rfl dX11_count_259 ?_
                            refine lv_iconst (v := 4) hx hb dX11_count_262 (by decide) ?_
                            refine q_iald (x := (s1.f 44 4)) C hK hP 28 1 rfl rfl (vp_lit (by decide +kernel)) dX11_count_263 rfl ?_
                            obtain ⟨q_, hc, hB⟩ := bindP_inv hB
                            refine q_goi0 (va_runS (As := [.int (s1.f 44 4)]) (rest := [.int (((r26 + r27) + r28) + r29)]) C (cr_bits hc _) (va_cwS 1 hts gX11_count_X11_bits rfl rfl rfl (by decide +kernel) ⟨Nat.le_of_ble_eq_true rfl, Nat.le_of_ble_eq_true rfl⟩) (q_pre0 hN hK) rfl rfl hl.1 rfl (lv_room (Nat.le_of_ble_eq_true rfl)) dX11_count_264 ⟨Nat.le_of_ble_eq_true rfl, Nat.le_of_ble_eq_true rfl⟩) hP hD hS hA (fun r30 w1 H locs hw hP hS => ?_)
                            subst hw
                            refine lv_iadd hx hb dX11_count_267 ?_
                            exact q_iret C hr hlocks hK hP hD hS (Nat.le_of_ble_eq_true rfl) (Nat.le_of_ble_eq_true rfl) dX11_count_268 (by cases hB; exact ⟨rfl, rfl⟩)
                          · have hB := if_n hB e25
                            by_cases e31 : x1 = 13
                            · have hB := if_p hB e31
                              refine q_top (y := 13) e31 ?_
                              refine lv_tableIn (off := 262) (tgt := 269) hx hb dX11_count_7 (by decide +kernel) (by decide +kernel) (by decide +kernel) (by decide) ?_
                              refine lv_iconst (v := 0) hx hb dX11_count_269 (by decide) ?_
                              refine lv_istore_n (lv' := [(3, .int 0), (2, .int 0), (0, .ref h), (1, .int x1)]) hx hb dX11_count_270 rfl hl (by decide) rfl (fun ls hl => ?_)
                              exact br_count_271L fu _ _ _ hB p e s0 m below meth c A E H locs ls hP hD hS (lv_sub hl [2, 1, 0] rfl)
                            · have hB := if_n hB e31
                              by_cases e32 : x1 = 14
                              · have hB := if_p hB e32
                                refine q_top (y := 14) e32 ?_
                                refine lv_tableIn (off := 302) (tgt := 309) hx hb dX11_count_7 (by decide +kernel) (by decide +kernel) (by decide +kernel) (by decide) ?_
                                refine lv_aload_n hx hb dX11_count_309 rfl (lv_at hl 1 rfl) ?_
                                obtain ⟨q_, s33, hc, hB⟩ := bindI_inv hB
                                refine q_goiF (va_runV (As := []) (rest := []) C (cr_guesses hc _) (cwV 0 hts gX11_count_X11_guesses rfl rfl rfl (by decide +kernel) ⟨Nat.le_of_ble_eq_true rfl, Nat.le_of_ble_eq_true rfl⟩) (q_preV hK hP (ci := 11) (q0 := 0) rfl rfl rfl (q_preF hN hK hP hD)) rfl rfl hl.1 rfl (lv_room (Nat.le_of_ble_eq_true rfl)) dX11_count_310 ⟨Nat.le_of_ble_eq_true rfl, Nat.le_of_ble_eq_true rfl⟩) hD hS hA (fun r34 w1 H locs hw hP hD hS => ?_)
                                obtain ⟨hq_, hw⟩ := hw; subst hw; subst hq_
                                exact q_iret C hr hlocks hK hP hD hS (Nat.le_of_ble_eq_true rfl) (Nat.le_of_ble_eq_true rfl) dX11_count_313 (by cases hB; exact ⟨rfl, rfl⟩)
                              · have hB := if_n hB e32
                                by_cases e35 : x1 = 15
                                · have hB := if_p hB e35
                                  refine q_top (y := 15) e35 ?_
                                  refine lv_tableIn (off := 307) (tgt := 314) hx hb dX11_count_7 (by decide +kernel) (by decide +kernel) (by decide +kernel) (by decide) ?_
                                  refine lv_aload_n hx hb dX11_count_314 rfl (lv_at hl 1 rfl) ?_
                                  obtain ⟨q_, s36, hc, hB⟩ := bindI_inv hB
                                  refine q_goiF (va_runV (As := []) (rest := []) C (cr_thereNumber hc _) (cwV 0 hts gX11_count_X11_thereNumber rfl rfl rfl (by decide +kernel) ⟨Nat.le_of_ble_eq_true rfl, Nat.le_of_ble_eq_true rfl⟩) (q_preV hK hP (ci := 11) (q0 := 0) rfl rfl rfl (q_preF hN hK hP hD)) rfl rfl hl.1 rfl (lv_room (Nat.le_of_ble_eq_true rfl)) dX11_count_315 ⟨Nat.le_of_ble_eq_true rfl, Nat.le_of_ble_eq_true rfl⟩) hD hS hA (fun r37 w1 H locs hw hP hD hS => ?_)
                                  obtain ⟨hq_, hw⟩ := hw; subst hw; subst hq_
                                  exact q_iret C hr hlocks hK hP hD hS (Nat.le_of_ble_eq_true rfl) (Nat.le_of_ble_eq_true rfl) dX11_count_318 (by cases hB; exact ⟨rfl, rfl⟩)
                                · have hB := if_n hB e35
                                  by_cases e38 : x1 = 16
                                  · have hB := if_p hB e38
                                    refine q_top (y := 16) e38 ?_
                                    refine lv_tableIn (off := 312) (tgt := 319) hx hb dX11_count_7 (by decide +kernel) (by decide +kernel) (by decide +kernel) (by decide) ?_
                                    refine lv_aload_n hx hb dX11_count_319 rfl (lv_at hl 1 rfl) ?_
                                    refine lv_bipush (v := 10) hx hb dX11_count_320 (by decide) ?_
                                    refine lv_iconst (v := 5) hx hb dX11_count_322 (by decide) ?_
                                    obtain ⟨q_, s39, hc, hB⟩ := bindI_inv hB
                                    refine q_goiF (va_runV (As := [.int 10, .int 5]) (rest := []) C (cr_sumNow hc _) (cwV 2 hts gX11_count_X11_sumNow rfl rfl rfl (by decide +kernel) ⟨Nat.le_of_ble_eq_true rfl, Nat.le_of_ble_eq_true rfl⟩) (q_preV hK hP (ci := 11) (q0 := 0) rfl rfl rfl (q_preF hN hK hP hD)) rfl rfl hl.1 rfl (lv_room (Nat.le_of_ble_eq_true rfl)) dX11_count_323 ⟨Nat.le_of_ble_eq_true rfl, Nat.le_of_ble_eq_true rfl⟩) hD hS hA (fun r40 w1 H locs hw hP hD hS => ?_)
                                    obtain ⟨hq_, hw⟩ := hw; subst hw; subst hq_
                                    exact q_iret C hr hlocks hK hP hD hS (Nat.le_of_ble_eq_true rfl) (Nat.le_of_ble_eq_true rfl) dX11_count_326 (by cases hB; exact ⟨rfl, rfl⟩)
                                  · have hB := if_n hB e38
                                    by_cases e41 : x1 = 17
                                    · have hB := if_p hB e41
                                      refine q_top (y := 17) e41 ?_
                                      refine lv_tableIn (off := 320) (tgt := 327) hx hb dX11_count_7 (by decide +kernel) (by decide +kernel) (by decide +kernel) (by decide) ?_
                                      refine lv_iconst (v := 0) hx hb dX11_count_327 (by decide) ?_
                                      refine lv_istore_n (lv' := [(3, .int 0), (2, .int 0), (0, .ref h), (1, .int x1)]) hx hb dX11_count_328 rfl hl (by decide) rfl (fun ls hl => ?_)
                                      exact br_count_329L fu _ _ _ hB p e s0 m below meth c A E H locs ls hP hD hS (lv_sub hl [2, 1, 0] rfl)
                                    · have hB := if_n hB e41
                                      by_cases e42 : x1 = 18
                                      · have hB := if_p hB e42
                                        refine q_top (y := 18) e42 ?_
                                        refine lv_tableIn (off := 357) (tgt := 364) hx hb dX11_count_7 (by decide +kernel) (by decide +kernel) (by decide +kernel) (by decide) ?_
                                        refine lv_iconst (v := 0) hx hb dX11_count_364 (by decide) ?_
                                        refine lv_istore_n (lv' := [(3, .int 0), (2, .int 0), (0, .ref h), (1, .int x1)]) hx hb dX11_count_365 rfl hl (by decide) rfl (fun ls hl => ?_)
                                        exact br_count_366L fu _ _ _ hB p e s0 m below meth c A E H locs ls hP hD hS (lv_sub hl [2, 1, 0] rfl)
                                      · have hB := if_n hB e42
                                        refine lv_tableOut (tgt := 403) hx hb dX11_count_7 (by have := ne_toInt (k := 0) rfl e2; have := ne_toInt (k := 1) rfl e4; have := ne_toInt (k := 2) rfl e6; have := ne_toInt (k := 3) rfl e7; have := ne_toInt (k := 4) rfl e8; have := ne_toInt (k := 5) rfl e11; have := ne_toInt (k := 6) rfl e14; have := ne_toInt (k := 7) rfl e17; have := ne_toInt (k := 8) rfl e20; have := ne_toInt (k := 9) rfl e21; have := ne_toInt (k := 10) rfl e22; have := ne_toInt (k := 11) rfl e23; have := ne_toInt (k := 12) rfl e25; have := ne_toInt (k := 13) rfl e31; have := ne_toInt (k := 14) rfl e32; have := ne_toInt (k := 15) rfl e35; have := ne_toInt (k := 16) rfl e38; have := ne_toInt (k := 17) rfl e41; have := ne_toInt (k := 18) rfl e42; omega) (by decide) ?_
                                        refine lv_iconst (v := (-1)) hx hb dX11_count_403 (by decide) ?_
                                        exact q_iret C hr hlocks hK hP hD hS (Nat.le_of_ble_eq_true rfl) (Nat.le_of_ble_eq_true rfl) dX11_count_404 (by cases hB; exact ⟨rfl, rfl⟩)
theorem cr_count {l : Launch} {dC : Nat → ClassId} {dI : Nat → Nat → Nat} {cB cI cJ cZ cS : ClassId} {h : Nat} {a : Nat → Nat} {r : Int32} {s' : RS} {s : RS} {x1 : Int32} (hB : r_count s x1 = some (r, s')) : CI l yX11_count wsX11_count ({ frames := 4, cells := 0, slots := 0, locals := 90 }) (dC, dI) (tysA cB cI cJ cZ cS) (mwS cB cI cJ cZ h a s) [.ref h, .int x1] (fun x u => x = r ∧ u = (mwS cB cI cJ cZ h a s')) :=
  CI_of (cc := cX11_count) (maxL := 4) (ret := (some .int)) (by decide) rfl (Nat.le_of_ble_eq_true rfl) (br_count _ _ hB)
