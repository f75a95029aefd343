theorem ggX11_fetch_X11_isParty : GoodIn wsX11_fetch wsX11_isParty := gi_sub (fun w h => List.mem_cons_of_mem _ (List.mem_append_left _ (List.mem_append_right _ (List.mem_append_left _ h)))) gd_wsX11_isParty
set_option maxRecDepth 20000 in
theorem gX11_fetch_X11_isParty : GoodIn wsX11_fetch (wsV RX11 358 RX11 yX11_isParty wsX11_isParty) := goodIn_app (goodIn_r _ [3, 4, 5, 6] (by decide +kernel) (by decide +kernel)) ggX11_fetch_X11_isParty
theorem ggX11_fetch_X11_copies : GoodIn wsX11_fetch wsX11_copies := gi_sub (fun w h => List.mem_cons_of_mem _ (List.mem_append_left _ (List.mem_append_right _ (List.mem_append_right _ (List.mem_append_left _ h))))) gd_wsX11_copies
set_option maxRecDepth 20000 in
theorem gX11_fetch_X11_copies : GoodIn wsX11_fetch (wsV RX11 352 RX11 yX11_copies wsX11_copies) := goodIn_app (goodIn_r _ [7, 8, 9, 6] (by decide +kernel) (by decide +kernel)) ggX11_fetch_X11_copies
theorem ggX11_fetch_X11_records : GoodIn wsX11_fetch wsX11_records := gi_sub (fun w h => List.mem_cons_of_mem _ (List.mem_append_left _ (List.mem_append_right _ (List.mem_append_right _ (List.mem_append_right _ h))))) gd_wsX11_records
set_option maxRecDepth 20000 in
theorem gX11_fetch_X11_records : GoodIn wsX11_fetch (wsV RX11 376 RX11 yX11_records wsX11_records) := goodIn_app (goodIn_r _ [10, 11, 12, 6] (by decide +kernel) (by decide +kernel)) ggX11_fetch_X11_records
theorem dX11_fetch_0 : decode cX11_fetch 0 = .ok (.aload_n 0, 1) := dc1_42 (by decide +kernel)
theorem dX11_fetch_1 : decode cX11_fetch 1 = .ok (.iload_n 1, 1) := dc1_27 (by decide +kernel)
theorem dX11_fetch_2 : decode cX11_fetch 2 = .ok (.invokevirtual 358, 3) := dcw_182 (by decide +kernel)
theorem dX11_fetch_5 : decode cX11_fetch 5 = .ok (.ifCond .eq 15, 3) := dcs_153 (n := 15) (by decide +kernel)
theorem dX11_fetch_8 : decode cX11_fetch 8 = .ok (.aload_n 0, 1) := dc1_42 (by decide +kernel)
theorem dX11_fetch_9 : decode cX11_fetch 9 = .ok (.getfield 98, 3) := dcw_180 (by decide +kernel)
theorem dX11_fetch_12 : decode cX11_fetch 12 = .ok (.bipush 15, 2) := dcb_16 (n := 15) (by decide +kernel)
theorem dX11_fetch_14 : decode cX11_fetch 14 = .ok (.iload_n 1, 1) := dc1_27 (by decide +kernel)
theorem dX11_fetch_15 : decode cX11_fetch 15 = .ok (.iadd, 1) := dc1_96 (by decide +kernel)
theorem dX11_fetch_16 : decode cX11_fetch 16 = .ok (.iaload, 1) := dc1_46 (by decide +kernel)
theorem dX11_fetch_17 : decode cX11_fetch 17 = .ok (.ifCond .ne 5, 3) := dcs_154 (n := 5) (by decide +kernel)
theorem dX11_fetch_20 : decode cX11_fetch 20 = .ok (.iconst 0, 1) := dc1_3 (by decide +kernel)
theorem dX11_fetch_21 : decode cX11_fetch 21 = .ok (.ireturn, 1) := dc1_172 (by decide +kernel)
theorem dX11_fetch_22 : decode cX11_fetch 22 = .ok (.aload_n 0, 1) := dc1_42 (by decide +kernel)
theorem dX11_fetch_23 : decode cX11_fetch 23 = .ok (.invokevirtual 352, 3) := dcw_182 (by decide +kernel)
theorem dX11_fetch_26 : decode cX11_fetch 26 = .ok (.aload_n 0, 1) := dc1_42 (by decide +kernel)
theorem dX11_fetch_27 : decode cX11_fetch 27 = .ok (.getfield 101, 3) := dcw_180 (by decide +kernel)
theorem dX11_fetch_30 : decode cX11_fetch 30 = .ok (.bipush 15, 2) := dcb_16 (n := 15) (by decide +kernel)
theorem dX11_fetch_32 : decode cX11_fetch 32 = .ok (.iload_n 1, 1) := dc1_27 (by decide +kernel)
theorem dX11_fetch_33 : decode cX11_fetch 33 = .ok (.iadd, 1) := dc1_96 (by decide +kernel)
theorem dX11_fetch_34 : decode cX11_fetch 34 = .ok (.iconst 0, 1) := dc1_3 (by decide +kernel)
theorem dX11_fetch_35 : decode cX11_fetch 35 = .ok (.iastore, 1) := dc1_79 (by decide +kernel)
theorem dX11_fetch_36 : decode cX11_fetch 36 = .ok (.aload_n 0, 1) := dc1_42 (by decide +kernel)
theorem dX11_fetch_37 : decode cX11_fetch 37 = .ok (.invokevirtual 376, 3) := dcw_182 (by decide +kernel)
theorem dX11_fetch_40 : decode cX11_fetch 40 = .ok (.iconst 1, 1) := dc1_4 (by decide +kernel)
theorem dX11_fetch_41 : decode cX11_fetch 41 = .ok (.ireturn, 1) := dc1_172 (by decide +kernel)
theorem ggX11_isLong_X11_in : GoodIn wsX11_isLong wsX11_in := gi_sub (fun w h => List.mem_cons_of_mem _ (List.mem_append_right _ h)) gd_wsX11_in
set_option maxRecDepth 20000 in
theorem gX11_isLong_X11_in : GoodIn wsX11_isLong (va_wsS RX11 281 yX11_in wsX11_in) := goodIn_app (goodIn_of _ (by decide +kernel)) ggX11_isLong_X11_in
theorem dX11_isLong_0 : decode cX11_isLong 0 = .ok (.iload_n 0, 1) := dc1_26 (by decide +kernel)
theorem dX11_isLong_1 : decode cX11_isLong 1 = .ok (.iconst 0, 1) := dc1_3 (by decide +kernel)
theorem dX11_isLong_2 : decode cX11_isLong 2 = .ok (.bipush 40, 2) := dcb_16 (n := 40) (by decide +kernel)
theorem dX11_isLong_4 : decode cX11_isLong 4 = .ok (.invokestatic 281, 3) := dcw_184 (by decide +kernel)
theorem dX11_isLong_7 : decode cX11_isLong 7 = .ok (.ireturn, 1) := dc1_172 (by decide +kernel)
theorem ggX11_years_X11_isLong : GoodIn wsX11_years wsX11_isLong := gi_sub (fun w h => List.mem_cons_of_mem _ (List.mem_append_left _ (List.mem_append_right _ (List.mem_append_left _ h)))) gd_wsX11_isLong
set_option maxRecDepth 20000 in
theorem gX11_years_X11_isLong : GoodIn wsX11_years (va_wsS RX11 379 yX11_isLong wsX11_isLong) := goodIn_app (goodIn_of _ (by decide +kernel)) ggX11_years_X11_isLong
theorem ggX11_years_X11_copies : GoodIn wsX11_years wsX11_copies := gi_sub (fun w h => List.mem_cons_of_mem _ (List.mem_append_left _ (List.mem_append_right _ (List.mem_append_right _ (List.mem_append_left _ h))))) gd_wsX11_copies
set_option maxRecDepth 20000 in
theorem gX11_years_X11_copies : GoodIn wsX11_years (wsV RX11 352 RX11 yX11_copies wsX11_copies) := goodIn_app (goodIn_r _ [5, 6, 7, 4] (by decide +kernel) (by decide +kernel)) ggX11_years_X11_copies
theorem ggX11_years_X11_yearsGo : GoodIn wsX11_years wsX11_yearsGo := gi_sub (fun w h => List.mem_cons_of_mem _ (List.mem_append_left _ (List.mem_append_right _ (List.mem_append_right _ (List.mem_append_right _ (List.mem_append_left _ h)))))) gd_wsX11_yearsGo
set_option maxRecDepth 20000 in
theorem gX11_years_X11_yearsGo : GoodIn wsX11_years (wsV RX11 382 RX11 yX11_yearsGo wsX11_yearsGo) := goodIn_app (goodIn_r _ [8, 9, 10, 4] (by decide +kernel) (by decide +kernel)) ggX11_years_X11_yearsGo
theorem ggX11_years_X11_records : GoodIn wsX11_years wsX11_records := gi_sub (fun w h => List.mem_cons_of_mem _ (List.mem_append_left _ (List.mem_append_right _ (List.mem_append_right _ (List.mem_append_right _ (List.mem_append_right _ h)))))) gd_wsX11_records
set_option maxRecDepth 20000 in
theorem gX11_years_X11_records : GoodIn wsX11_years (wsV RX11 376 RX11 yX11_records wsX11_records) := goodIn_app (goodIn_r _ [11, 12, 13, 4] (by decide +kernel) (by decide +kernel)) ggX11_years_X11_records
theorem dX11_years_0 : decode cX11_years 0 = .ok (.iload_n 1, 1) := dc1_27 (by decide +kernel)
theorem dX11_years_1 : decode cX11_years 1 = .ok (.invokestatic 379, 3) := dcw_184 (by decide +kernel)
theorem dX11_years_4 : decode cX11_years 4 = .ok (.ifCond .ne 5, 3) := dcs_154 (n := 5) (by decide +kernel)
theorem dX11_years_7 : decode cX11_years 7 = .ok (.iconst (-1), 1) := dc1_2 (by decide +kernel)
theorem dX11_years_8 : decode cX11_years 8 = .ok (.ireturn, 1) := dc1_172 (by decide +kernel)
theorem dX11_years_9 : decode cX11_years 9 = .ok (.iload_n 1, 1) := dc1_27 (by decide +kernel)
theorem dX11_years_10 : decode cX11_years 10 = .ok (.ifCond .ne 11, 3) := dcs_154 (n := 11) (by decide +kernel)
theorem dX11_years_13 : decode cX11_years 13 = .ok (.aload_n 0, 1) := dc1_42 (by decide +kernel)
theorem dX11_years_14 : decode cX11_years 14 = .ok (.getfield 98, 3) := dcw_180 (by decide +kernel)
theorem dX11_years_17 : decode cX11_years 17 = .ok (.bipush 27, 2) := dcb_16 (n := 27) (by decide +kernel)
theorem dX11_years_19 : decode cX11_years 19 = .ok (.iaload, 1) := dc1_46 (by decide +kernel)
theorem dX11_years_20 : decode cX11_years 20 = .ok (.ireturn, 1) := dc1_172 (by decide +kernel)
theorem dX11_years_21 : decode cX11_years 21 = .ok (.aload_n 0, 1) := dc1_42 (by decide +kernel)
theorem dX11_years_22 : decode cX11_years 22 = .ok (.invokevirtual 352, 3) := dcw_182 (by decide +kernel)
theorem dX11_years_25 : decode cX11_years 25 = .ok (.aload_n 0, 1) := dc1_42 (by decide +kernel)
theorem dX11_years_26 : decode cX11_years 26 = .ok (.iload_n 1, 1) := dc1_27 (by decide +kernel)
theorem dX11_years_27 : decode cX11_years 27 = .ok (.invokevirtual 382, 3) := dcw_182 (by decide +kernel)
theorem dX11_years_30 : decode cX11_years 30 = .ok (.aload_n 0, 1) := dc1_42 (by decide +kernel)
theorem dX11_years_31 : decode cX11_years 31 = .ok (.invokevirtual 376, 3) := dcw_182 (by decide +kernel)
theorem dX11_years_34 : decode cX11_years 34 = .ok (.aload_n 0, 1) := dc1_42 (by decide +kernel)
theorem dX11_years_35 : decode cX11_years 35 = .ok (.getfield 98, 3) := dcw_180 (by decide +kernel)
theorem dX11_years_38 : decode cX11_years 38 = .ok (.bipush 27, 2) := dcb_16 (n := 27) (by decide +kernel)
theorem dX11_years_40 : decode cX11_years 40 = .ok (.iaload, 1) := dc1_46 (by decide +kernel)
theorem dX11_years_41 : decode cX11_years 41 = .ok (.ireturn, 1) := dc1_172 (by decide +kernel)
theorem dX11_undo_0 : decode cX11_undo 0 = .ok (.aload_n 0, 1) := dc1_42 (by decide +kernel)
theorem dX11_undo_1 : decode cX11_undo 1 = .ok (.getfield 230, 3) := dcw_180 (by decide +kernel)
theorem dX11_undo_4 : decode cX11_undo 4 = .ok (.ifCond .ne 5, 3) := dcs_154 (n := 5) (by decide +kernel)
theorem dX11_undo_7 : decode cX11_undo 7 = .ok (.iconst 0, 1) := dc1_3 (by decide +kernel)
theorem dX11_undo_8 : decode cX11_undo 8 = .ok (.ireturn, 1) := dc1_172 (by decide +kernel)
theorem dX11_undo_9 : decode cX11_undo 9 = .ok (.aload_n 0, 1) := dc1_42 (by decide +kernel)
theorem dX11_undo_10 : decode cX11_undo 10 = .ok (.dup, 1) := dc1_89 (by decide +kernel)
theorem dX11_undo_11 : decode cX11_undo 11 = .ok (.getfield 230, 3) := dcw_180 (by decide +kernel)
theorem dX11_undo_14 : decode cX11_undo 14 = .ok (.iconst 1, 1) := dc1_4 (by decide +kernel)
theorem dX11_undo_15 : decode cX11_undo 15 = .ok (.isub, 1) := dc1_100 (by decide +kernel)
theorem dX11_undo_16 : decode cX11_undo 16 = .ok (.putfield 230, 3) := dcw_181 (by decide +kernel)
theorem dX11_undo_19 : decode cX11_undo 19 = .ok (.iconst 0, 1) := dc1_3 (by decide +kernel)
theorem dX11_undo_20 : decode cX11_undo 20 = .ok (.istore_n 1, 1) := dc1_60 (by decide +kernel)
theorem dX11_undo_21 : decode cX11_undo 21 = .ok (.iload_n 1, 1) := dc1_27 (by decide +kernel)
theorem dX11_undo_22 : decode cX11_undo 22 = .ok (.bipush 29, 2) := dcb_16 (n := 29) (by decide +kernel)
theorem dX11_undo_24 : decode cX11_undo 24 = .ok (.if_icmp .ge 29, 3) := dcs_162 (n := 29) (by decide +kernel)
theorem dX11_undo_27 : decode cX11_undo 27 = .ok (.aload_n 0, 1) := dc1_42 (by decide +kernel)
theorem dX11_undo_28 : decode cX11_undo 28 = .ok (.getfield 98, 3) := dcw_180 (by decide +kernel)
theorem dX11_undo_31 : decode cX11_undo 31 = .ok (.iload_n 1, 1) := dc1_27 (by decide +kernel)
theorem dX11_undo_32 : decode cX11_undo 32 = .ok (.aload_n 0, 1) := dc1_42 (by decide +kernel)
theorem dX11_undo_33 : decode cX11_undo 33 = .ok (.getfield 110, 3) := dcw_180 (by decide +kernel)
theorem dX11_undo_36 : decode cX11_undo 36 = .ok (.bipush 29, 2) := dcb_16 (n := 29) (by decide +kernel)
theorem dX11_undo_38 : decode cX11_undo 38 = .ok (.aload_n 0, 1) := dc1_42 (by decide +kernel)
theorem dX11_undo_39 : decode cX11_undo 39 = .ok (.getfield 230, 3) := dcw_180 (by decide +kernel)
theorem dX11_undo_42 : decode cX11_undo 42 = .ok (.imul, 1) := dc1_104 (by decide +kernel)
theorem dX11_undo_43 : decode cX11_undo 43 = .ok (.iload_n 1, 1) := dc1_27 (by decide +kernel)
theorem dX11_undo_44 : decode cX11_undo 44 = .ok (.iadd, 1) := dc1_96 (by decide +kernel)
theorem dX11_undo_45 : decode cX11_undo 45 = .ok (.iaload, 1) := dc1_46 (by decide +kernel)
theorem dX11_undo_46 : decode cX11_undo 46 = .ok (.iastore, 1) := dc1_79 (by decide +kernel)
theorem dX11_undo_47 : decode cX11_undo 47 = .ok (.iinc 1 1, 3) := dc_iinc (m := 1) (by decide +kernel)
theorem dX11_undo_50 : decode cX11_undo 50 = .ok (.goto (-29), 3) := dcs_167 (n := 65507) (by decide +kernel)
theorem dX11_undo_53 : decode cX11_undo 53 = .ok (.iconst 1, 1) := dc1_4 (by decide +kernel)
theorem dX11_undo_54 : decode cX11_undo 54 = .ok (.ireturn, 1) := dc1_172 (by decide +kernel)
theorem ggX11_casesNow_X11_mayAt : GoodIn wsX11_casesNow wsX11_mayAt := gi_sub (fun w h => List.mem_cons_of_mem _ (List.mem_append_left _ (List.mem_append_right _ (List.mem_append_left _ h)))) gd_wsX11_mayAt
set_option maxRecDepth 20000 in
theorem gX11_casesNow_X11_mayAt : GoodIn wsX11_casesNow (wsV RX11 309 RX11 yX11_mayAt wsX11_mayAt) := goodIn_app (goodIn_r _ [3, 4, 5, 6] (by decide +kernel) (by decide +kernel)) ggX11_casesNow_X11_mayAt
theorem ggX11_casesNow_X11_bits : GoodIn wsX11_casesNow wsX11_bits := gi_sub (fun w h => List.mem_cons_of_mem _ (List.mem_append_left _ (List.mem_append_right _ (List.mem_append_right _ h)))) gd_wsX11_bits
set_option maxRecDepth 20000 in
theorem gX11_casesNow_X11_bits : GoodIn wsX11_casesNow (va_wsS RX11 312 yX11_bits wsX11_bits) := goodIn_app (goodIn_of _ (by decide +kernel)) ggX11_casesNow_X11_bits
theorem dX11_casesNow_0 : decode cX11_casesNow 0 = .ok (.iconst 1, 1) := dc1_4 (by decide +kernel)
theorem dX11_casesNow_1 : decode cX11_casesNow 1 = .ok (.istore_n 1, 1) := dc1_60 (by decide +kernel)
theorem dX11_casesNow_2 : decode cX11_casesNow 2 = .ok (.iconst 0, 1) := dc1_3 (by decide +kernel)
theorem dX11_casesNow_3 : decode cX11_casesNow 3 = .ok (.istore_n 2, 1) := dc1_61 (by decide +kernel)
theorem dX11_casesNow_4 : decode cX11_casesNow 4 = .ok (.iload_n 2, 1) := dc1_28 (by decide +kernel)
theorem dX11_casesNow_5 : decode cX11_casesNow 5 = .ok (.aload_n 0, 1) := dc1_42 (by decide +kernel)
theorem dX11_casesNow_6 : decode cX11_casesNow 6 = .ok (.getfield 40, 3) := dcw_180 (by decide +kernel)
theorem dX11_casesNow_9 : decode cX11_casesNow 9 = .ok (.aload_n 0, 1) := dc1_42 (by decide +kernel)
theorem dX11_casesNow_10 : decode cX11_casesNow 10 = .ok (.getfield 215, 3) := dcw_180 (by decide +kernel)
theorem dX11_casesNow_13 : decode cX11_casesNow 13 = .ok (.iaload, 1) := dc1_46 (by decide +kernel)
theorem dX11_casesNow_14 : decode cX11_casesNow 14 = .ok (.if_icmp .ge 20, 3) := dcs_162 (n := 20) (by decide +kernel)
theorem dX11_casesNow_17 : decode cX11_casesNow 17 = .ok (.iload_n 1, 1) := dc1_27 (by decide +kernel)
theorem dX11_casesNow_18 : decode cX11_casesNow 18 = .ok (.aload_n 0, 1) := dc1_42 (by decide +kernel)
theorem dX11_casesNow_19 : decode cX11_casesNow 19 = .ok (.iload_n 2, 1) := dc1_28 (by decide +kernel)
theorem dX11_casesNow_20 : decode cX11_casesNow 20 = .ok (.invokevirtual 309, 3) := dcw_182 (by decide +kernel)
theorem dX11_casesNow_23 : decode cX11_casesNow 23 = .ok (.invokestatic 312, 3) := dcw_184 (by decide +kernel)
theorem dX11_casesNow_26 : decode cX11_casesNow 26 = .ok (.imul, 1) := dc1_104 (by decide +kernel)
theorem dX11_casesNow_27 : decode cX11_casesNow 27 = .ok (.istore_n 1, 1) := dc1_60 (by decide +kernel)
theorem dX11_casesNow_28 : decode cX11_casesNow 28 = .ok (.iinc 2 1, 3) := dc_iinc (m := 1) (by decide +kernel)
theorem dX11_casesNow_31 : decode cX11_casesNow 31 = .ok (.goto (-27), 3) := dcs_167 (n := 65509) (by decide +kernel)
theorem dX11_casesNow_34 : decode cX11_casesNow 34 = .ok (.iload_n 1, 1) := dc1_27 (by decide +kernel)
theorem dX11_casesNow_35 : decode cX11_casesNow 35 = .ok (.ireturn, 1) := dc1_172 (by decide +kernel)
theorem ggX11_cases_X11_copies : GoodIn wsX11_cases wsX11_copies := gi_sub (fun w h => List.mem_cons_of_mem _ (List.mem_append_left _ (List.mem_append_right _ (List.mem_append_left _ h)))) gd_wsX11_copies
set_option maxRecDepth 20000 in
theorem gX11_cases_X11_copies : GoodIn wsX11_cases (wsV RX11 352 RX11 yX11_copies wsX11_copies) := goodIn_app (goodIn_r _ [1, 2, 3, 4] (by decide +kernel) (by decide +kernel)) ggX11_cases_X11_copies
theorem ggX11_cases_X11_casesNow : GoodIn wsX11_cases wsX11_casesNow := gi_sub (fun w h => List.mem_cons_of_mem _ (List.mem_append_left _ (List.mem_append_right _ (List.mem_append_right _ h)))) gd_wsX11_casesNow
set_option maxRecDepth 20000 in
theorem gX11_cases_X11_casesNow : GoodIn wsX11_cases (wsV RX11 385 RX11 yX11_casesNow wsX11_casesNow) := goodIn_app (goodIn_r _ [5, 6, 7, 4] (by decide +kernel) (by decide +kernel)) ggX11_cases_X11_casesNow
theorem dX11_cases_0 : decode cX11_cases 0 = .ok (.aload_n 0, 1) := dc1_42 (by decide +kernel)
theorem dX11_cases_1 : decode cX11_cases 1 = .ok (.invokevirtual 352, 3) := dcw_182 (by decide +kernel)
theorem dX11_cases_4 : decode cX11_cases 4 = .ok (.aload_n 0, 1) := dc1_42 (by decide +kernel)
theorem dX11_cases_5 : decode cX11_cases 5 = .ok (.invokevirtual 385, 3) := dcw_182 (by decide +kernel)
theorem dX11_cases_8 : decode cX11_cases 8 = .ok (.ireturn, 1) := dc1_172 (by decide +kernel)
theorem ggX11_mayBe_X11_mayAt : GoodIn wsX11_mayBe wsX11_mayAt := gi_sub (fun w h => List.mem_cons_of_mem _ (List.mem_append_left _ (List.mem_append_right _ h))) gd_wsX11_mayAt
set_option maxRecDepth 20000 in
theorem gX11_mayBe_X11_mayAt : GoodIn wsX11_mayBe (wsV RX11 309 RX11 yX11_mayAt wsX11_mayAt) := goodIn_app (goodIn_r _ [1, 2, 3, 4] (by decide +kernel) (by decide +kernel)) ggX11_mayBe_X11_mayAt
theorem dX11_mayBe_0 : decode cX11_mayBe 0 = .ok (.aload_n 0, 1) := dc1_42 (by decide +kernel)
theorem dX11_mayBe_1 : decode cX11_mayBe 1 = .ok (.iload_n 1, 1) := dc1_27 (by decide +kernel)
theorem dX11_mayBe_2 : decode cX11_mayBe 2 = .ok (.invokevirtual 309, 3) := dcw_182 (by decide +kernel)
theorem dX11_mayBe_5 : decode cX11_mayBe 5 = .ok (.iload_n 2, 1) := dc1_28 (by decide +kernel)
theorem dX11_mayBe_6 : decode cX11_mayBe 6 = .ok (.ishr, 1) := dc1_122 (by decide +kernel)
theorem dX11_mayBe_7 : decode cX11_mayBe 7 = .ok (.iconst 1, 1) := dc1_4 (by decide +kernel)
theorem dX11_mayBe_8 : decode cX11_mayBe 8 = .ok (.iand, 1) := dc1_126 (by decide +kernel)
theorem dX11_mayBe_9 : decode cX11_mayBe 9 = .ok (.iconst 1, 1) := dc1_4 (by decide +kernel)
theorem dX11_mayBe_10 : decode cX11_mayBe 10 = .ok (.if_icmp .ne 7, 3) := dcs_160 (n := 7) (by decide +kernel)
theorem dX11_mayBe_13 : decode cX11_mayBe 13 = .ok (.iconst 1, 1) := dc1_4 (by decide +kernel)
theorem dX11_mayBe_14 : decode cX11_mayBe 14 = .ok (.goto 4, 3) := dcs_167 (n := 4) (by decide +kernel)
theorem dX11_mayBe_17 : decode cX11_mayBe 17 = .ok (.iconst 0, 1) := dc1_3 (by decide +kernel)
theorem dX11_mayBe_18 : decode cX11_mayBe 18 = .ok (.ireturn, 1) := dc1_172 (by decide +kernel)
theorem ggX11_chanceOf_X11_thingAt : GoodIn wsX11_chanceOf wsX11_thingAt := gi_sub (fun w h => List.mem_cons_of_mem _ (List.mem_append_left _ (List.mem_append_right _ (List.mem_append_left _ h)))) gd_wsX11_thingAt
set_option maxRecDepth 20000 in
theorem gX11_chanceOf_X11_thingAt : GoodIn wsX11_chanceOf (wsV RX11 330 RX11 yX11_thingAt wsX11_thingAt) := goodIn_app (goodIn_r _ [3, 4, 5, 6] (by decide +kernel) (by decide +kernel)) ggX11_chanceOf_X11_thingAt
theorem ggX11_chanceOf_X11_mayBe : GoodIn wsX11_chanceOf wsX11_mayBe := gi_sub (fun w h => List.mem_cons_of_mem _ (List.mem_append_left _ (List.mem_append_right _ (List.mem_append_right _ (List.mem_append_left _ h))))) gd_wsX11_mayBe
set_option maxRecDepth 20000 in
theorem gX11_chanceOf_X11_mayBe : GoodIn wsX11_chanceOf (wsV RX11 388 RX11 yX11_mayBe wsX11_mayBe) := goodIn_app (goodIn_r _ [7, 8, 9, 6] (by decide +kernel) (by decide +kernel)) ggX11_chanceOf_X11_mayBe
theorem ggX11_chanceOf_X11_oddsAt : GoodIn wsX11_chanceOf wsX11_oddsAt := gi_sub (fun w h => List.mem_cons_of_mem _ (List.mem_append_left _ (List.mem_append_right _ (List.mem_append_right _ (List.mem_append_right _ h))))) gd_wsX11_oddsAt
set_option maxRecDepth 20000 in
theorem gX11_chanceOf_X11_oddsAt : GoodIn wsX11_chanceOf (wsV RX11 297 RX11 yX11_oddsAt wsX11_oddsAt) := goodIn_app (goodIn_r _ [10, 11, 12, 6] (by decide +kernel) (by decide +kernel)) ggX11_chanceOf_X11_oddsAt
theorem dX11_chanceOf_0 : decode cX11_chanceOf 0 = .ok (.iconst 1, 1) := dc1_4 (by decide +kernel)
theorem dX11_chanceOf_1 : decode cX11_chanceOf 1 = .ok (.istore_n 2, 1) := dc1_61 (by decide +kernel)
theorem dX11_chanceOf_2 : decode cX11_chanceOf 2 = .ok (.iconst 0, 1) := dc1_3 (by decide +kernel)
theorem dX11_chanceOf_3 : decode cX11_chanceOf 3 = .ok (.istore_n 3, 1) := dc1_62 (by decide +kernel)
theorem dX11_chanceOf_4 : decode cX11_chanceOf 4 = .ok (.iload_n 3, 1) := dc1_29 (by decide +kernel)
theorem dX11_chanceOf_5 : decode cX11_chanceOf 5 = .ok (.aload_n 0, 1) := dc1_42 (by decide +kernel)
theorem dX11_chanceOf_6 : decode cX11_chanceOf 6 = .ok (.getfield 40, 3) := dcw_180 (by decide +kernel)
theorem dX11_chanceOf_9 : decode cX11_chanceOf 9 = .ok (.aload_n 0, 1) := dc1_42 (by decide +kernel)
theorem dX11_chanceOf_10 : decode cX11_chanceOf 10 = .ok (.getfield 215, 3) := dcw_180 (by decide +kernel)
theorem dX11_chanceOf_13 : decode cX11_chanceOf 13 = .ok (.iaload, 1) := dc1_46 (by decide +kernel)
theorem dX11_chanceOf_14 : decode cX11_chanceOf 14 = .ok (.if_icmp .ge 41, 3) := dcs_162 (n := 41) (by decide +kernel)
theorem dX11_chanceOf_17 : decode cX11_chanceOf 17 = .ok (.aload_n 0, 1) := dc1_42 (by decide +kernel)
theorem dX11_chanceOf_18 : decode cX11_chanceOf 18 = .ok (.iload_n 1, 1) := dc1_27 (by decide +kernel)
theorem dX11_chanceOf_19 : decode cX11_chanceOf 19 = .ok (.iload_n 3, 1) := dc1_29 (by decide +kernel)
theorem dX11_chanceOf_20 : decode cX11_chanceOf 20 = .ok (.invokevirtual 330, 3) := dcw_182 (by decide +kernel)
theorem dX11_chanceOf_23 : decode cX11_chanceOf 23 = .ok (.istore 4, 2) := dcu_54 (by decide +kernel)
theorem dX11_chanceOf_25 : decode cX11_chanceOf 25 = .ok (.iload_n 2, 1) := dc1_28 (by decide +kernel)
theorem dX11_chanceOf_26 : decode cX11_chanceOf 26 = .ok (.aload_n 0, 1) := dc1_42 (by decide +kernel)
theorem dX11_chanceOf_27 : decode cX11_chanceOf 27 = .ok (.iload_n 3, 1) := dc1_29 (by decide +kernel)
theorem dX11_chanceOf_28 : decode cX11_chanceOf 28 = .ok (.iload 4, 2) := dcu_21 (by decide +kernel)
theorem dX11_chanceOf_30 : decode cX11_chanceOf 30 = .ok (.invokevirtual 388, 3) := dcw_182 (by decide +kernel)
theorem dX11_chanceOf_33 : decode cX11_chanceOf 33 = .ok (.ifCond .eq 13, 3) := dcs_153 (n := 13) (by decide +kernel)
theorem dX11_chanceOf_36 : decode cX11_chanceOf 36 = .ok (.aload_n 0, 1) := dc1_42 (by decide +kernel)
theorem dX11_chanceOf_37 : decode cX11_chanceOf 37 = .ok (.iload_n 3, 1) := dc1_29 (by decide +kernel)
theorem dX11_chanceOf_38 : decode cX11_chanceOf 38 = .ok (.iload 4, 2) := dcu_21 (by decide +kernel)
theorem dX11_chanceOf_40 : decode cX11_chanceOf 40 = .ok (.invokevirtual 297, 3) := dcw_182 (by decide +kernel)
theorem dX11_chanceOf_43 : decode cX11_chanceOf 43 = .ok (.goto 4, 3) := dcs_167 (n := 4) (by decide +kernel)
theorem dX11_chanceOf_46 : decode cX11_chanceOf 46 = .ok (.iconst 0, 1) := dc1_3 (by decide +kernel)
theorem dX11_chanceOf_47 : decode cX11_chanceOf 47 = .ok (.imul, 1) := dc1_104 (by decide +kernel)
theorem dX11_chanceOf_48 : decode cX11_chanceOf 48 = .ok (.istore_n 2, 1) := dc1_61 (by decide +kernel)
theorem dX11_chanceOf_49 : decode cX11_chanceOf 49 = .ok (.iinc 3 1, 3) := dc_iinc (m := 1) (by decide +kernel)
theorem dX11_chanceOf_52 : decode cX11_chanceOf 52 = .ok (.goto (-48), 3) := dcs_167 (n := 65488) (by decide +kernel)
theorem dX11_chanceOf_55 : decode cX11_chanceOf 55 = .ok (.iload_n 2, 1) := dc1_28 (by decide +kernel)
theorem dX11_chanceOf_56 : decode cX11_chanceOf 56 = .ok (.ireturn, 1) := dc1_172 (by decide +kernel)
theorem ggX11_isCase_X11_thingAt : GoodIn wsX11_isCase wsX11_thingAt := gi_sub (fun w h => List.mem_cons_of_mem _ (List.mem_append_left _ (List.mem_append_right _ (List.mem_append_left _ h)))) gd_wsX11_thingAt
set_option maxRecDepth 20000 in
theorem gX11_isCase_X11_thingAt : GoodIn wsX11_isCase (wsV RX11 330 RX11 yX11_thingAt wsX11_thingAt) := goodIn_app (goodIn_r _ [3, 4, 5, 6] (by decide +kernel) (by decide +kernel)) ggX11_isCase_X11_thingAt
theorem ggX11_isCase_X11_mayBe : GoodIn wsX11_isCase wsX11_mayBe := gi_sub (fun w h => List.mem_cons_of_mem _ (List.mem_append_left _ (List.mem_append_right _ (List.mem_append_right _ h)))) gd_wsX11_mayBe
set_option maxRecDepth 20000 in
theorem gX11_isCase_X11_mayBe : GoodIn wsX11_isCase (wsV RX11 388 RX11 yX11_mayBe wsX11_mayBe) := goodIn_app (goodIn_r _ [7, 8, 9, 6] (by decide +kernel) (by decide +kernel)) ggX11_isCase_X11_mayBe
theorem dX11_isCase_0 : decode cX11_isCase 0 = .ok (.iconst 0, 1) := dc1_3 (by decide +kernel)
theorem dX11_isCase_1 : decode cX11_isCase 1 = .ok (.istore_n 2, 1) := dc1_61 (by decide +kernel)
theorem dX11_isCase_2 : decode cX11_isCase 2 = .ok (.iload_n 2, 1) := dc1_28 (by decide +kernel)
theorem dX11_isCase_3 : decode cX11_isCase 3 = .ok (.aload_n 0, 1) := dc1_42 (by decide +kernel)
theorem dX11_isCase_4 : decode cX11_isCase 4 = .ok (.getfield 40, 3) := dcw_180 (by decide +kernel)
theorem dX11_isCase_7 : decode cX11_isCase 7 = .ok (.aload_n 0, 1) := dc1_42 (by decide +kernel)
theorem dX11_isCase_8 : decode cX11_isCase 8 = .ok (.getfield 215, 3) := dcw_180 (by decide +kernel)
theorem dX11_isCase_11 : decode cX11_isCase 11 = .ok (.iaload, 1) := dc1_46 (by decide +kernel)
theorem dX11_isCase_12 : decode cX11_isCase 12 = .ok (.if_icmp .ge 25, 3) := dcs_162 (n := 25) (by decide +kernel)
theorem dX11_isCase_15 : decode cX11_isCase 15 = .ok (.aload_n 0, 1) := dc1_42 (by decide +kernel)
theorem dX11_isCase_16 : decode cX11_isCase 16 = .ok (.iload_n 2, 1) := dc1_28 (by decide +kernel)
theorem dX11_isCase_17 : decode cX11_isCase 17 = .ok (.aload_n 0, 1) := dc1_42 (by decide +kernel)
theorem dX11_isCase_18 : decode cX11_isCase 18 = .ok (.iload_n 1, 1) := dc1_27 (by decide +kernel)
theorem dX11_isCase_19 : decode cX11_isCase 19 = .ok (.iload_n 2, 1) := dc1_28 (by decide +kernel)
theorem dX11_isCase_20 : decode cX11_isCase 20 = .ok (.invokevirtual 330, 3) := dcw_182 (by decide +kernel)
theorem dX11_isCase_23 : decode cX11_isCase 23 = .ok (.invokevirtual 388, 3) := dcw_182 (by decide +kernel)
theorem dX11_isCase_26 : decode cX11_isCase 26 = .ok (.ifCond .ne 5, 3) := dcs_154 (n := 5) (by decide +kernel)
theorem dX11_isCase_29 : decode cX11_isCase 29 = .ok (.iconst 0, 1) := dc1_3 (by decide +kernel)
theorem dX11_isCase_30 : decode cX11_isCase 30 = .ok (.ireturn, 1) := dc1_172 (by decide +kernel)
theorem dX11_isCase_31 : decode cX11_isCase 31 = .ok (.iinc 2 1, 3) := dc_iinc (m := 1) (by decide +kernel)
theorem dX11_isCase_34 : decode cX11_isCase 34 = .ok (.goto (-32), 3) := dcs_167 (n := 65504) (by decide +kernel)
theorem dX11_isCase_37 : decode cX11_isCase 37 = .ok (.iconst 1, 1) := dc1_4 (by decide +kernel)
theorem dX11_isCase_38 : decode cX11_isCase 38 = .ok (.ireturn, 1) := dc1_172 (by decide +kernel)
theorem ggX11_chance_X11_isGuess : GoodIn wsX11_chance wsX11_isGuess := gi_sub (fun w h => List.mem_cons_of_mem _ (List.mem_append_left _ (List.mem_append_right _ (List.mem_append_left _ h)))) gd_wsX11_isGuess
set_option maxRecDepth 20000 in
theorem gX11_chance_X11_isGuess : GoodIn wsX11_chance (wsV RX11 367 RX11 yX11_isGuess wsX11_isGuess) := goodIn_app (goodIn_r _ [1, 2, 3, 4] (by decide +kernel) (by decide +kernel)) ggX11_chance_X11_isGuess
theorem ggX11_chance_X11_copies : GoodIn wsX11_chance wsX11_copies := gi_sub (fun w h => List.mem_cons_of_mem _ (List.mem_append_left _ (List.mem_append_right _ (List.mem_append_right _ (List.mem_append_left _ h))))) gd_wsX11_copies
set_option maxRecDepth 20000 in
theorem gX11_chance_X11_copies : GoodIn wsX11_chance (wsV RX11 352 RX11 yX11_copies wsX11_copies) := goodIn_app (goodIn_r _ [5, 6, 7, 4] (by decide +kernel) (by decide +kernel)) ggX11_chance_X11_copies
theorem ggX11_chance_X11_chanceOf : GoodIn wsX11_chance wsX11_chanceOf := gi_sub (fun w h => List.mem_cons_of_mem _ (List.mem_append_left _ (List.mem_append_right _ (List.mem_append_right _ (List.mem_append_right _ h))))) gd_wsX11_chanceOf
set_option maxRecDepth 20000 in
theorem gX11_chance_X11_chanceOf : GoodIn wsX11_chance (wsV RX11 392 RX11 yX11_chanceOf wsX11_chanceOf) := goodIn_app (goodIn_r _ [8, 9, 10, 4] (by decide +kernel) (by decide +kernel)) ggX11_chance_X11_chanceOf
theorem dX11_chance_0 : decode cX11_chance 0 = .ok (.aload_n 0, 1) := dc1_42 (by decide +kernel)
theorem dX11_chance_1 : decode cX11_chance 1 = .ok (.iload_n 1, 1) := dc1_27 (by decide +kernel)
theorem dX11_chance_2 : decode cX11_chance 2 = .ok (.invokevirtual 367, 3) := dcw_182 (by decide +kernel)
theorem dX11_chance_5 : decode cX11_chance 5 = .ok (.ifCond .ne 5, 3) := dcs_154 (n := 5) (by decide +kernel)
theorem dX11_chance_8 : decode cX11_chance 8 = .ok (.iconst (-1), 1) := dc1_2 (by decide +kernel)
theorem dX11_chance_9 : decode cX11_chance 9 = .ok (.ireturn, 1) := dc1_172 (by decide +kernel)
theorem dX11_chance_10 : decode cX11_chance 10 = .ok (.aload_n 0, 1) := dc1_42 (by decide +kernel)
theorem dX11_chance_11 : decode cX11_chance 11 = .ok (.invokevirtual 352, 3) := dcw_182 (by decide +kernel)
theorem dX11_chance_14 : decode cX11_chance 14 = .ok (.aload_n 0, 1) := dc1_42 (by decide +kernel)
theorem dX11_chance_15 : decode cX11_chance 15 = .ok (.iload_n 1, 1) := dc1_27 (by decide +kernel)
theorem dX11_chance_16 : decode cX11_chance 16 = .ok (.invokevirtual 392, 3) := dcw_182 (by decide +kernel)
theorem dX11_chance_19 : decode cX11_chance 19 = .ok (.ireturn, 1) := dc1_172 (by decide +kernel)
theorem ggX11_sumAt_X11_mayBe : GoodIn wsX11_sumAt wsX11_mayBe := gi_sub (fun w h => List.mem_cons_of_mem _ (List.mem_append_left _ (List.mem_append_right _ (List.mem_append_left _ h)))) gd_wsX11_mayBe
set_option maxRecDepth 20000 in
theorem gX11_sumAt_X11_mayBe : GoodIn wsX11_sumAt (wsV RX11 388 RX11 yX11_mayBe wsX11_mayBe) := goodIn_app (goodIn_r _ [1, 2, 3, 4] (by decide +kernel) (by decide +kernel)) ggX11_sumAt_X11_mayBe
theorem ggX11_sumAt_X11_oddsAt : GoodIn wsX11_sumAt wsX11_oddsAt := gi_sub (fun w h => List.mem_cons_of_mem _ (List.mem_append_left _ (List.mem_append_right _ (List.mem_append_right _ h)))) gd_wsX11_oddsAt
set_option maxRecDepth 20000 in
theorem gX11_sumAt_X11_oddsAt : GoodIn wsX11_sumAt (wsV RX11 297 RX11 yX11_oddsAt wsX11_oddsAt) := goodIn_app (goodIn_r _ [5, 6, 7, 4] (by decide +kernel) (by decide +kernel)) ggX11_sumAt_X11_oddsAt
theorem dX11_sumAt_0 : decode cX11_sumAt 0 = .ok (.iconst 0, 1) := dc1_3 (by decide +kernel)
theorem dX11_sumAt_1 : decode cX11_sumAt 1 = .ok (.istore_n 2, 1) := dc1_61 (by decide +kernel)
theorem dX11_sumAt_2 : decode cX11_sumAt 2 = .ok (.iconst 0, 1) := dc1_3 (by decide +kernel)
theorem dX11_sumAt_3 : decode cX11_sumAt 3 = .ok (.istore_n 3, 1) := dc1_62 (by decide +kernel)
theorem dX11_sumAt_4 : decode cX11_sumAt 4 = .ok (.iload_n 3, 1) := dc1_29 (by decide +kernel)
theorem dX11_sumAt_5 : decode cX11_sumAt 5 = .ok (.bipush 6, 2) := dcb_16 (n := 6) (by decide +kernel)
theorem dX11_sumAt_7 : decode cX11_sumAt 7 = .ok (.if_icmp .ge 27, 3) := dcs_162 (n := 27) (by decide +kernel)
theorem dX11_sumAt_10 : decode cX11_sumAt 10 = .ok (.aload_n 0, 1) := dc1_42 (by decide +kernel)
theorem dX11_sumAt_11 : decode cX11_sumAt 11 = .ok (.iload_n 1, 1) := dc1_27 (by decide +kernel)
theorem dX11_sumAt_12 : decode cX11_sumAt 12 = .ok (.iload_n 3, 1) := dc1_29 (by decide +kernel)
theorem dX11_sumAt_13 : decode cX11_sumAt 13 = .ok (.invokevirtual 388, 3) := dcw_182 (by decide +kernel)
theorem dX11_sumAt_16 : decode cX11_sumAt 16 = .ok (.ifCond .eq 12, 3) := dcs_153 (n := 12) (by decide +kernel)
theorem dX11_sumAt_19 : decode cX11_sumAt 19 = .ok (.iload_n 2, 1) := dc1_28 (by decide +kernel)
theorem dX11_sumAt_20 : decode cX11_sumAt 20 = .ok (.aload_n 0, 1) := dc1_42 (by decide +kernel)
theorem dX11_sumAt_21 : decode cX11_sumAt 21 = .ok (.iload_n 1, 1) := dc1_27 (by decide +kernel)
theorem dX11_sumAt_22 : decode cX11_sumAt 22 = .ok (.iload_n 3, 1) := dc1_29 (by decide +kernel)
theorem dX11_sumAt_23 : decode cX11_sumAt 23 = .ok (.invokevirtual 297, 3) := dcw_182 (by decide +kernel)
theorem dX11_sumAt_26 : decode cX11_sumAt 26 = .ok (.iadd, 1) := dc1_96 (by decide +kernel)
theorem dX11_sumAt_27 : decode cX11_sumAt 27 = .ok (.istore_n 2, 1) := dc1_61 (by decide +kernel)
theorem dX11_sumAt_28 : decode cX11_sumAt 28 = .ok (.iinc 3 1, 3) := dc_iinc (m := 1) (by decide +kernel)
theorem dX11_sumAt_31 : decode cX11_sumAt 31 = .ok (.goto (-27), 3) := dcs_167 (n := 65509) (by decide +kernel)
theorem dX11_sumAt_34 : decode cX11_sumAt 34 = .ok (.iload_n 2, 1) := dc1_28 (by decide +kernel)
theorem dX11_sumAt_35 : decode cX11_sumAt 35 = .ok (.ireturn, 1) := dc1_172 (by decide +kernel)
theorem ggX11_all_X11_copies : GoodIn wsX11_all wsX11_copies := gi_sub (fun w h => List.mem_cons_of_mem _ (List.mem_append_left _ (List.mem_append_right _ (List.mem_append_left _ h)))) gd_wsX11_copies
set_option maxRecDepth 20000 in
theorem gX11_all_X11_copies : GoodIn wsX11_all (wsV RX11 352 RX11 yX11_copies wsX11_copies) := goodIn_app (goodIn_r _ [3, 4, 5, 6] (by decide +kernel) (by decide +kernel)) ggX11_all_X11_copies
theorem ggX11_all_X11_sumAt : GoodIn wsX11_all wsX11_sumAt := gi_sub (fun w h => List.mem_cons_of_mem _ (List.mem_append_left _ (List.mem_append_right _ (List.mem_append_right _ h)))) gd_wsX11_sumAt
set_option maxRecDepth 20000 in
theorem gX11_all_X11_sumAt : GoodIn wsX11_all (wsV RX11 395 RX11 yX11_sumAt wsX11_sumAt) := goodIn_app (goodIn_r _ [7, 8, 9, 6] (by decide +kernel) (by decide +kernel)) ggX11_all_X11_sumAt
theorem dX11_all_0 : decode cX11_all 0 = .ok (.aload_n 0, 1) := dc1_42 (by decide +kernel)
theorem dX11_all_1 : decode cX11_all 1 = .ok (.invokevirtual 352, 3) := dcw_182 (by decide +kernel)
theorem dX11_all_4 : decode cX11_all 4 = .ok (.iconst 1, 1) := dc1_4 (by decide +kernel)
theorem dX11_all_5 : decode cX11_all 5 = .ok (.istore_n 1, 1) := dc1_60 (by decide +kernel)
theorem dX11_all_6 : decode cX11_all 6 = .ok (.iconst 0, 1) := dc1_3 (by decide +kernel)
theorem dX11_all_7 : decode cX11_all 7 = .ok (.istore_n 2, 1) := dc1_61 (by decide +kernel)
theorem dX11_all_8 : decode cX11_all 8 = .ok (.iload_n 2, 1) := dc1_28 (by decide +kernel)
theorem dX11_all_9 : decode cX11_all 9 = .ok (.aload_n 0, 1) := dc1_42 (by decide +kernel)
theorem dX11_all_10 : decode cX11_all 10 = .ok (.getfield 40, 3) := dcw_180 (by decide +kernel)
theorem dX11_all_13 : decode cX11_all 13 = .ok (.aload_n 0, 1) := dc1_42 (by decide +kernel)
theorem dX11_all_14 : decode cX11_all 14 = .ok (.getfield 215, 3) := dcw_180 (by decide +kernel)
theorem dX11_all_17 : decode cX11_all 17 = .ok (.iaload, 1) := dc1_46 (by decide +kernel)
theorem dX11_all_18 : decode cX11_all 18 = .ok (.if_icmp .ge 17, 3) := dcs_162 (n := 17) (by decide +kernel)
theorem dX11_all_21 : decode cX11_all 21 = .ok (.iload_n 1, 1) := dc1_27 (by decide +kernel)
theorem dX11_all_22 : decode cX11_all 22 = .ok (.aload_n 0, 1) := dc1_42 (by decide +kernel)
theorem dX11_all_23 : decode cX11_all 23 = .ok (.iload_n 2, 1) := dc1_28 (by decide +kernel)
theorem dX11_all_24 : decode cX11_all 24 = .ok (.invokevirtual 395, 3) := dcw_182 (by decide +kernel)
theorem dX11_all_27 : decode cX11_all 27 = .ok (.imul, 1) := dc1_104 (by decide +kernel)
theorem dX11_all_28 : decode cX11_all 28 = .ok (.istore_n 1, 1) := dc1_60 (by decide +kernel)
theorem dX11_all_29 : decode cX11_all 29 = .ok (.iinc 2 1, 3) := dc_iinc (m := 1) (by decide +kernel)
theorem dX11_all_32 : decode cX11_all 32 = .ok (.goto (-24), 3) := dcs_167 (n := 65512) (by decide +kernel)
theorem dX11_all_35 : decode cX11_all 35 = .ok (.iload_n 1, 1) := dc1_27 (by decide +kernel)
theorem dX11_all_36 : decode cX11_all 36 = .ok (.ireturn, 1) := dc1_172 (by decide +kernel)
theorem LX11_fetch_101 : Cond.fieldLink RX11 101 "GuessFerryModel" "row" "[I" ∈ wsX11_fetch := by decide +kernel
theorem LX11_fetch_98 : Cond.fieldLink RX11 98 "GuessFerryModel" "now" "[I" ∈ wsX11_fetch := by decide +kernel
theorem inX11_fetch_X11 : ∀ w ∈ u_ws RX11 TX11 58, w ∈ wsX11_fetch := by decide +kernel
set_option maxHeartbeats 4000000 in
set_option maxRecDepth 100000 in
theorem br_fetch {l : Launch} {dC : Nat → ClassId} {dI : Nat → Nat → Nat} {cB cI cJ cZ cS : ClassId} {h : Nat} {a : Nat → Nat} {as : List Value} {r : Int32} {s' : RS} (s : RS) (x1 : Int32) (hB : r_fetch s x1 = some (r, s')) : BlkI l yX11_fetch wsX11_fetch ({ frames := 2, cells := 0, slots := 0, locals := 43 }) cX11_fetch 2 (some .boolean) (dC, dI) (tysA cB cI cJ cZ cS) as 0 (mwS cB cI cJ cZ h a s) [(0, .ref h), (1, .int x1)] [] (fun x u => x = r ∧ u = (mwS cB cI cJ cZ h a s')) := by
  intro p e s0 m below meth c A E H locs ls hP hD hS hl
  obtain ⟨C, hr, hlocks, hA, hK, hN⟩ := id E
  obtain ⟨hx, hb, hml, hown, hts⟩ := id C
  unfold r_fetch at hB
  refine lv_aload_n hx hb dX11_fetch_0 rfl (lv_at hl 0 rfl) ?_
  refine lv_iload_n hx hb dX11_fetch_1 rfl (lv_at hl 1 rfl) ?_
  obtain ⟨q_, s1, hc, hB⟩ := bindI_inv hB
  refine q_goiF (va_runV (As := [.int x1]) (rest := []) C (cr_isParty hc _) (cwV 1 hts gX11_fetch_X11_isParty rfl rfl rfl (by decide +kernel) ⟨Nat.le_of_ble_eq_true rfl, Nat.le_of_ble_eq_true rfl⟩) (q_preV hK hP (ci := 11) (q0 := 0) rfl rfl rfl (q_preF hN hK hP hD)) rfl rfl hl.1 rfl (lv_room (Nat.le_of_ble_eq_true rfl)) dX11_fetch_2 ⟨Nat.le_of_ble_eq_true rfl, Nat.le_of_ble_eq_true rfl⟩) hD hS hA (fun r2 w1 H locs hw hP hD hS => ?_)
  obtain ⟨hq_, hw⟩ := hw; subst hw; subst hq_
  refine lv_if_eq (tgt := 20) hx hb dX11_fetch_5 (by decide) (fun c3 => ?_) (fun c3 => ?_)
  · have hB := if_p hB c3
    refine lv_iconst (v := 0) hx hb dX11_fetch_20 (by decide) ?_
    exact q_zret C hr hlocks (Or.inl rfl) hK hP hD hS (Nat.le_of_ble_eq_true rfl) (Nat.le_of_ble_eq_true rfl) dX11_fetch_21 (by cases hB; exact ⟨rfl, rfl⟩)
  · have hB := if_n hB c3
    refine lv_aload_n hx hb dX11_fetch_8 rfl (lv_at hl 0 rfl) ?_
    refine q_get (v := .ref (a 43)) C inX11_fetch_X11 hK hP 0 rfl rfl 43 (by decide) rfl LX11_fetch_98 rfl dX11_fetch_9 ?_
    refine lv_bipush (v := 15) hx hb dX11_fetch_12 (by decide) ?_
    refine lv_iload_n hx hb dX11_fetch_14 rfl (lv_at hl 1 rfl) ?_
    refine lv_iadd hx hb dX11_fetch_15 ?_
    obtain ⟨g4, hB⟩ := guard_inv hB
    refine q_iald (x := (s1.f 43 (Int32.toNatClampNeg (15 + x1)))) C hK hP 27 1 rfl rfl (vpb_in g4) dX11_fetch_16 rfl ?_
    refine lv_if_ne (tgt := 22) hx hb dX11_fetch_17 (by decide) (fun c5 => ?_) (fun c5 => ?_)
    · have hB := if_n hB c5
      refine lv_aload_n hx hb dX11_fetch_22 rfl (lv_at hl 0 rfl) ?_
      obtain ⟨s6, hc, hB⟩ := bindP_inv hB
      refine q_govF (va_runV (As := []) (rest := []) C (cr_copies hc _) (cwV 0 hts gX11_fetch_X11_copies rfl rfl rfl (by decide +kernel) ⟨Nat.le_of_ble_eq_true rfl, Nat.le_of_ble_eq_true rfl⟩) (q_preV hK hP (ci := 11) (q0 := 0) rfl rfl rfl (q_preF hN hK hP hD)) rfl rfl hl.1 rfl (lv_room (Nat.le_of_ble_eq_true rfl)) dX11_fetch_23 ⟨Nat.le_of_ble_eq_true rfl, Nat.le_of_ble_eq_true rfl⟩) hD hS hA (fun w1 H locs hw hP hD hS => ?_)
      subst hw
      refine lv_aload_n hx hb dX11_fetch_26 rfl (lv_at hl 0 rfl) ?_
      refine q_get (v := .ref (a 44)) C inX11_fetch_X11 hK hP 0 rfl rfl 44 (by decide) rfl LX11_fetch_101 rfl dX11_fetch_27 ?_
      refine lv_bipush (v := 15) hx hb dX11_fetch_30 (by decide) ?_
      refine lv_iload_n hx hb dX11_fetch_32 rfl (lv_at hl 1 rfl) ?_
      refine lv_iadd hx hb dX11_fetch_33 ?_
      refine lv_iconst (v := 0) hx hb dX11_fetch_34 (by decide) ?_
      obtain ⟨g7, hB⟩ := guard_inv hB
      obtain ⟨s8, hs9, hB⟩ := letS_inv hB
      refine q_iast (f2 := (upd (s6.f 44) (Int32.toNatClampNeg (15 + x1)) 0)) (w2 := (mwS cB cI cJ cZ h a s8)) C hK hP hD hS 28 1 rfl rfl (vpb_in g7) dX11_fetch_35 rfl (mwS_f44 hs9) (fun H locs hP hD hS => ?_)
      refine lv_aload_n hx hb dX11_fetch_36 rfl (lv_at hl 0 rfl) ?_
      obtain ⟨s10, hc, hB⟩ := bindP_inv hB
      refine q_govF (va_runV (As := []) (rest := []) C (cr_records hc _) (cwV 0 hts gX11_fetch_X11_records rfl rfl rfl (by decide +kernel) ⟨Nat.le_of_ble_eq_true rfl, Nat.le_of_ble_eq_true rfl⟩) (q_preV hK hP (ci := 11) (q0 := 0) rfl rfl rfl (q_preF hN hK hP hD)) rfl rfl hl.1 rfl (lv_room (Nat.le_of_ble_eq_true rfl)) dX11_fetch_37 ⟨Nat.le_of_ble_eq_true rfl, Nat.le_of_ble_eq_true rfl⟩) hD hS hA (fun w1 H locs hw hP hD hS => ?_)
      subst hw
      refine lv_iconst (v := 1) hx hb dX11_fetch_40 (by decide) ?_
      exact q_zret C hr hlocks (Or.inr rfl) hK hP hD hS (Nat.le_of_ble_eq_true rfl) (Nat.le_of_ble_eq_true rfl) dX11_fetch_41 (by cases hB; exact ⟨rfl, rfl⟩)
    · have hB := if_p hB c5
      refine lv_iconst (v := 0) hx hb dX11_fetch_20 (by decide) ?_
      exact q_zret C hr hlocks (Or.inl rfl) hK hP hD hS (Nat.le_of_ble_eq_true rfl) (Nat.le_of_ble_eq_true rfl) dX11_fetch_21 (by cases hB; exact ⟨rfl, rfl⟩)
theorem cr_fetch {l : Launch} {dC : Nat → ClassId} {dI : Nat → Nat → Nat} {cB cI cJ cZ cS : ClassId} {h : Nat} {a : Nat → Nat} {r : Int32} {s' : RS} {s : RS} {x1 : Int32} (hB : r_fetch s x1 = some (r, s')) : CI l yX11_fetch wsX11_fetch ({ frames := 2, cells := 0, slots := 0, locals := 43 }) (dC, dI) (tysA cB cI cJ cZ cS) (mwS cB cI cJ cZ h a s) [.ref h, .int x1] (fun x u => x = r ∧ u = (mwS cB cI cJ cZ h a s')) :=
  CI_of (cc := cX11_fetch) (maxL := 2) (ret := (some .boolean)) (by decide) rfl (Nat.le_of_ble_eq_true rfl) (br_fetch _ _ hB)
set_option maxHeartbeats 4000000 in
set_option maxRecDepth 100000 in
theorem br_isLong {l : Launch} {dC : Nat → ClassId} {dI : Nat → Nat → Nat} {cB cI cJ cZ cS : ClassId} {as : List Value} {r : Int32} (x0 : Int32) (hB : r_isLong x0 = some r) : BlkI l yX11_isLong wsX11_isLong ({ frames := 1, cells := 0, slots := 0, locals := 22 }) cX11_isLong 1 (some .boolean) (dC, dI) (tysA cB cI cJ cZ cS) as 0 [] [(0, .int x0)] [] (fun x _ => x = r) := by
  intro p e s0 m below meth c A E H locs ls hP hD hS hl
  obtain ⟨C, hr, hlocks, hA, hK, hN⟩ := id E
  obtain ⟨hx, hb, hml, hown, hts⟩ := id C
  unfold r_isLong at hB
  refine lv_iload_n hx hb dX11_isLong_0 rfl (lv_at hl 0 rfl) ?_
  refine lv_iconst (v := 0) hx hb dX11_isLong_1 (by decide) ?_
  refine lv_bipush (v := 40) hx hb dX11_isLong_2 (by decide) ?_
  obtain ⟨q_, hc, hB⟩ := bindP_inv hB
  refine q_goi0 (va_runS (As := [.int x0, .int 0, .int 40]) (rest := []) C (cr_in hc _) (va_cwS 3 hts gX11_isLong_X11_in rfl rfl rfl (by decide +kernel) ⟨Nat.le_of_ble_eq_true rfl, Nat.le_of_ble_eq_true rfl⟩) (q_pre0 hN hK) rfl rfl hl.1 rfl (lv_room (Nat.le_of_ble_eq_true rfl)) dX11_isLong_4 ⟨Nat.le_of_ble_eq_true rfl, Nat.le_of_ble_eq_true rfl⟩) hP hD hS hA (fun r1 w1 H locs hw hP hS => ?_)
  subst hw
  obtain ⟨z2, hB⟩ := guard_inv hB
  exact q_zret C hr hlocks z2 hK hP hD hS (Nat.le_of_ble_eq_true rfl) (Nat.le_of_ble_eq_true rfl) dX11_isLong_7 (by cases hB; rfl)
theorem cr_isLong {l : Launch} {dC : Nat → ClassId} {dI : Nat → Nat → Nat} {cB cI cJ cZ cS : ClassId} {r : Int32} {x0 : Int32} (hB : r_isLong x0 = some r) : CI l yX11_isLong wsX11_isLong ({ frames := 1, cells := 0, slots := 0, locals := 22 }) (dC, dI) (tysA cB cI cJ cZ cS) [] [.int x0] (fun x _ => x = r) :=
  CI_of (cc := cX11_isLong) (maxL := 1) (ret := (some .boolean)) (by decide) rfl (Nat.le_of_ble_eq_true rfl) (br_isLong _ hB)
theorem LX11_years_98 : Cond.fieldLink RX11 98 "GuessFerryModel" "now" "[I" ∈ wsX11_years := by decide +kernel
theorem inX11_years_X11 : ∀ w ∈ u_ws RX11 TX11 58, w ∈ wsX11_years := by decide +kernel
set_option maxHeartbeats 4000000 in
set_option maxRecDepth 100000 in
theorem br_years {l : Launch} {dC : Nat → ClassId} {dI : Nat → Nat → Nat} {cB cI cJ cZ cS : ClassId} {h : Nat} {a : Nat → Nat} {as : List Value} {r : Int32} {s' : RS} (s : RS) (x1 : Int32) (hB : r_years s x1 = some (r, s')) : BlkI l yX11_years wsX11_years ({ frames := 6, cells := 0, slots := 0, locals := 130 }) cX11_years 2 (some .int) (dC, dI) (tysA cB cI cJ cZ cS) as 0 (mwS cB cI cJ cZ h a s) [(0, .ref h), (1, .int x1)] [] (fun x u => x = r ∧ u = (mwS cB cI cJ cZ h a s')) := by
  intro p e s0 m below meth c A E H locs ls hP hD hS hl
  obtain ⟨C, hr, hlocks, hA, hK, hN⟩ := id E
  obtain ⟨hx, hb, hml, hown, hts⟩ := id C
  unfold r_years at hB
  refine lv_iload_n hx hb dX11_years_0 rfl (lv_at hl 1 rfl) ?_
  obtain ⟨q_, hc, hB⟩ := bindP_inv hB
  refine q_goi0 (va_runS (As := [.int x1]) (rest := []) C (cr_isLong hc _) (va_cwS 1 hts gX11_years_X11_isLong rfl rfl rfl (by decide +kernel) ⟨Nat.le_of_ble_eq_true rfl, Nat.le_of_ble_eq_true rfl⟩) (q_pre0 hN hK) rfl rfl hl.1 rfl (lv_room (Nat.le_of_ble_eq_true rfl)) dX11_years_1 ⟨Nat.le_of_ble_eq_true rfl, Nat.le_of_ble_eq_true rfl⟩) hP hD hS hA (fun r1 w1 H locs hw hP hS => ?_)
  subst hw
  refine lv_if_ne (tgt := 9) hx hb dX11_years_4 (by decide) (fun c2 => ?_) (fun c2 => ?_)
  · have hB := if_n hB c2
    refine lv_iload_n hx hb dX11_years_9 rfl (lv_at hl 1 rfl) ?_
    refine lv_if_ne (tgt := 21) hx hb dX11_years_10 (by decide) (fun c3 => ?_) (fun c3 => ?_)
    · have hB := if_n hB c3
      refine lv_aload_n hx hb dX11_years_21 rfl (lv_at hl 0 rfl) ?_
      obtain ⟨s4, hc, hB⟩ := bindP_inv hB
      refine q_govF (va_runV (As := []) (rest := []) C (cr_copies hc _) (cwV 0 hts gX11_years_X11_copies rfl rfl rfl (by decide +kernel) ⟨Nat.le_of_ble_eq_true rfl, Nat.le_of_ble_eq_true rfl⟩) (q_preV hK hP (ci := 11) (q0 := 0) rfl rfl rfl (q_preF hN hK hP hD)) rfl rfl hl.1 rfl (lv_room (Nat.le_of_ble_eq_true rfl)) dX11_years_22 ⟨Nat.le_of_ble_eq_true rfl, Nat.le_of_ble_eq_true rfl⟩) hD hS hA (fun w1 H locs hw hP hD hS => ?_)
      subst hw
      refine lv_aload_n hx hb dX11_years_25 rfl (lv_at hl 0 rfl) ?_
      refine lv_iload_n hx hb dX11_years_26 rfl (lv_at hl 1 rfl) ?_
      obtain ⟨s5, hc, hB⟩ := bindP_inv hB
      refine q_govF (va_runV (As := [.int x1]) (rest := []) C (cr_yearsGo hc _) (cwV 1 hts gX11_years_X11_yearsGo rfl rfl rfl (by decide +kernel) ⟨Nat.le_of_ble_eq_true rfl, Nat.le_of_ble_eq_true rfl⟩) (q_preV hK hP (ci := 11) (q0 := 0) rfl rfl rfl (q_preF hN hK hP hD)) rfl rfl hl.1 rfl (lv_room (Nat.le_of_ble_eq_true rfl)) dX11_years_27 ⟨Nat.le_of_ble_eq_true rfl, Nat.le_of_ble_eq_true rfl⟩) hD hS hA (fun w1 H locs hw hP hD hS => ?_)
      subst hw
      refine lv_aload_n hx hb dX11_years_30 rfl (lv_at hl 0 rfl) ?_
      obtain ⟨s6, hc, hB⟩ := bindP_inv hB
      refine q_govF (va_runV (As := []) (rest := []) C (cr_records hc _) (cwV 0 hts gX11_years_X11_records rfl rfl rfl (by decide +kernel) ⟨Nat.le_of_ble_eq_true rfl, Nat.le_of_ble_eq_true rfl⟩) (q_preV hK hP (ci := 11) (q0 := 0) rfl rfl rfl (q_preF hN hK hP hD)) rfl rfl hl.1 rfl (lv_room (Nat.le_of_ble_eq_true rfl)) dX11_years_31 ⟨Nat.le_of_ble_eq_true rfl, Nat.le_of_ble_eq_true rfl⟩) hD hS hA (fun w1 H locs hw hP hD hS => ?_)
      subst hw
      refine lv_aload_n hx hb dX11_years_34 rfl (lv_at hl 0 rfl) ?_
      refine q_get (v := .ref (a 43)) C inX11_years_X11 hK hP 0 rfl rfl 43 (by decide) rfl LX11_years_98 rfl dX11_years_35 ?_
      refine lv_bipush (v := 27) hx hb dX11_years_38 (by decide) ?_
      refine q_iald (x := (s6.f 43 27)) C hK hP 27 1 rfl rfl (vp_lit (by decide +kernel)) dX11_years_40 rfl ?_
      exact q_iret C hr hlocks hK hP hD hS (Nat.le_of_ble_eq_true rfl) (Nat.le_of_ble_eq_true rfl) dX11_years_41 (by cases hB; exact ⟨rfl, rfl⟩)
    · have hB := if_p hB c3
      refine lv_aload_n hx hb dX11_years_13 rfl (lv_at hl 0 rfl) ?_
      refine q_get (v := .ref (a 43)) C inX11_years_X11 hK hP 0 rfl rfl 43 (by decide) rfl LX11_years_98 rfl dX11_years_14 ?_
      refine lv_bipush (v := 27) hx hb dX11_years_17 (by decide) ?_
      refine q_iald (x := (s.f 43 27)) C hK hP 27 1 rfl rfl (vp_lit (by decide +kernel)) dX11_years_19 rfl ?_
      exact q_iret C hr hlocks hK hP hD hS (Nat.le_of_ble_eq_true rfl) (Nat.le_of_ble_eq_true rfl) dX11_years_20 (by cases hB; exact ⟨rfl, rfl⟩)
  · have hB := if_p hB c2
    refine lv_iconst (v := (-1)) hx hb dX11_years_7 (by decide) ?_
    exact q_iret C hr hlocks hK hP hD hS (Nat.le_of_ble_eq_true rfl) (Nat.le_of_ble_eq_true rfl) dX11_years_8 (by cases hB; exact ⟨rfl, rfl⟩)
theorem cr_years {l : Launch} {dC : Nat → ClassId} {dI : Nat → Nat → Nat} {cB cI cJ cZ cS : ClassId} {h : Nat} {a : Nat → Nat} {r : Int32} {s' : RS} {s : RS} {x1 : Int32} (hB : r_years s x1 = some (r, s')) : CI l yX11_years wsX11_years ({ frames := 6, cells := 0, slots := 0, locals := 130 }) (dC, dI) (tysA cB cI cJ cZ cS) (mwS cB cI cJ cZ h a s) [.ref h, .int x1] (fun x u => x = r ∧ u = (mwS cB cI cJ cZ h a s')) :=
  CI_of (cc := cX11_years) (maxL := 2) (ret := (some .int)) (by decide) rfl (Nat.le_of_ble_eq_true rfl) (br_years _ _ hB)
theorem LX11_undo_110 : Cond.fieldLink RX11 110 "GuessFerryModel" "history" "[I" ∈ wsX11_undo := by decide +kernel
theorem LX11_undo_230 : Cond.fieldLink RX11 230 "GuessFerryModel" "undos" "I" ∈ wsX11_undo := by decide +kernel
theorem LX11_undo_98 : Cond.fieldLink RX11 98 "GuessFerryModel" "now" "[I" ∈ wsX11_undo := by decide +kernel
theorem inX11_undo_X11 : ∀ w ∈ u_ws RX11 TX11 58, w ∈ wsX11_undo := fun _ h => List.mem_cons_of_mem _ (List.mem_append_right _ h)
set_option maxHeartbeats 4000000 in
set_option maxRecDepth 100000 in
theorem br_undo_21 {l : Launch} {dC : Nat → ClassId} {dI : Nat → Nat → Nat} {cB cI cJ cZ cS : ClassId} {h : Nat} {a : Nat → Nat} {as : List Value} {r : Int32} {s' : RS} {k21 : RS → Int32 → Option (Int32 × RS)} (hk21 : ∀ (s : RS) (x1 : Int32), k21 s x1 = some (r, s') → BlkI l yX11_undo wsX11_undo ({ frames := 0, cells := 0, slots := 0, locals := 0 }) cX11_undo 2 (some .boolean) (dC, dI) (tysA cB cI cJ cZ cS) as 21 (mwS cB cI cJ cZ h a s) [(0, .ref h), (1, .int x1)] [] (fun x u => x = r ∧ u = (mwS cB cI cJ cZ h a s'))) (s : RS) (x1 : Int32) (hB : r_undo_21 k21 s x1 = some (r, s')) : BlkI l yX11_undo wsX11_undo ({ frames := 0, cells := 0, slots := 0, locals := 0 }) cX11_undo 2 (some .boolean) (dC, dI) (tysA cB cI cJ cZ cS) as 21 (mwS cB cI cJ cZ h a s) [(0, .ref h), (1, .int x1)] [] (fun x u => x = r ∧ u = (mwS cB cI cJ cZ h a s')) := by
  intro p e s0 m below meth c A E H locs ls hP hD hS hl
  obtain ⟨C, hr, hlocks, hA, hK, hN⟩ := id E
  obtain ⟨hx, hb, hml, hown, hts⟩ := id C
  unfold r_undo_21 at hB
  refine lv_iload_n hx hb dX11_undo_21 rfl (lv_at hl 1 rfl) ?_
  refine lv_bipush (v := 29) hx hb dX11_undo_22 (by decide) ?_
  refine lv_icmp_ge (tgt := 53) hx hb dX11_undo_24 (by decide) (fun c1 => ?_) (fun c1 => ?_)
  · have hB := if_p hB c1
    refine lv_iconst (v := 1) hx hb dX11_undo_53 (by decide) ?_
    exact q_zret C hr hlocks (Or.inr rfl) hK hP hD hS (Nat.le_of_ble_eq_true rfl) (Nat.le_of_ble_eq_true rfl) dX11_undo_54 (by cases hB; exact ⟨rfl, rfl⟩)
  · have hB := if_n hB c1
    refine lv_aload_n hx hb dX11_undo_27 rfl (lv_at hl 0 rfl) ?_
    refine q_get (v := .ref (a 43)) C inX11_undo_X11 hK hP 0 rfl rfl 43 (by decide) rfl LX11_undo_98 rfl dX11_undo_28 ?_
    refine lv_iload_n hx hb dX11_undo_31 rfl (lv_at hl 1 rfl) ?_
    refine lv_aload_n hx hb dX11_undo_32 rfl (lv_at hl 0 rfl) ?_
    refine q_get (v := .ref (a 49)) C inX11_undo_X11 hK hP 0 rfl rfl 49 (by decide) rfl LX11_undo_110 rfl dX11_undo_33 ?_
    refine lv_bipush (v := 29) hx hb dX11_undo_36 (by decide) ?_
    refine lv_aload_n hx hb dX11_undo_38 rfl (lv_at hl 0 rfl) ?_
    refine q_get (v := .int (s.v 48)) C inX11_undo_X11 hK hP 0 rfl rfl 48 (by decide) rfl LX11_undo_230 rfl dX11_undo_39 ?_
    refine lv_imul hx hb dX11_undo_42 ?_
    refine lv_iload_n hx hb dX11_undo_43 rfl (lv_at hl 1 rfl) ?_
    refine lv_iadd hx hb dX11_undo_44 ?_
    obtain ⟨g2, hB⟩ := guard_inv hB
    refine q_iald (x := (s.f 49 (Int32.toNatClampNeg ((29 * (s.v 48)) + x1)))) C hK hP 31 1 rfl rfl (vpb_in g2) dX11_undo_45 rfl ?_
    obtain ⟨g3, hB⟩ := guard_inv hB
    obtain ⟨s4, hs5, hB⟩ := letS_inv hB
    refine q_iast (f2 := (upd (s.f 43) (Int32.toNatClampNeg x1) (s.f 49 (Int32.toNatClampNeg ((29 * (s.v 48)) + x1))))) (w2 := (mwS cB cI cJ cZ h a s4)) C hK hP hD hS 27 1 rfl rfl (vpb_in g3) dX11_undo_46 rfl (mwS_f43 hs5) (fun H locs hP hD hS => ?_)
    refine lv_iinc (v := (x1 + 1)) (lv' := [(1, .int (x1 + 1)), (0, .ref h)]) hx hb dX11_undo_47 hl (k := 1) rfl (rfl) (by decide) rfl (fun ls hl => ?_)
    refine lv_goto (tgt := 21) hx hb dX11_undo_50 (by decide) ?_
    exact hk21 _ _ hB p e s0 m below meth c A E H locs ls hP hD hS (lv_sub hl [1, 0] rfl)
theorem br_undo_21L {l : Launch} {dC : Nat → ClassId} {dI : Nat → Nat → Nat} {cB cI cJ cZ cS : ClassId} {h : Nat} {a : Nat → Nat} {as : List Value} {r : Int32} {s' : RS} : ∀ (n : Nat) (s : RS) (x1 : Int32), r_undo_21L n s x1 = some (r, s') → BlkI l yX11_undo wsX11_undo ({ frames := 0, cells := 0, slots := 0, locals := 0 }) cX11_undo 2 (some .boolean) (dC, dI) (tysA cB cI cJ cZ cS) as 21 (mwS cB cI cJ cZ h a s) [(0, .ref h), (1, .int x1)] [] (fun x u => x = r ∧ u = (mwS cB cI cJ cZ h a s')) := by
  intro n
  induction n with
  | zero => intro s x1 hB; exact none_ne hB
  | succ n ih => intro s x1 hB; exact br_undo_21 ih _ _ hB
set_option maxHeartbeats 4000000 in
set_option maxRecDepth 100000 in
theorem br_undo {l : Launch} {dC : Nat → ClassId} {dI : Nat → Nat → Nat} {cB cI cJ cZ cS : ClassId} {h : Nat} {a : Nat → Nat} {as : List Value} {r : Int32} {s' : RS} (s : RS) (hB : r_undo s = some (r, s')) : BlkI l yX11_undo wsX11_undo ({ frames := 0, cells := 0, slots := 0, locals := 0 }) cX11_undo 2 (some .boolean) (dC, dI) (tysA cB cI cJ cZ cS) as 0 (mwS cB cI cJ cZ h a s) [(0, .ref h)] [] (fun x u => x = r ∧ u = (mwS cB cI cJ cZ h a s')) := by
  intro p e s0 m below meth c A E H locs ls hP hD hS hl
  obtain ⟨C, hr, hlocks, hA, hK, hN⟩ := id E
  obtain ⟨hx, hb, hml, hown, hts⟩ := id C
  unfold r_undo at hB
  refine lv_aload_n hx hb dX11_undo_0 rfl (lv_at hl 0 rfl) ?_
  refine q_get (v := .int (s.v 48)) C inX11_undo_X11 hK hP 0 rfl rfl 48 (by decide) rfl LX11_undo_230 rfl dX11_undo_1 ?_
  refine lv_if_ne (tgt := 9) hx hb dX11_undo_4 (by decide) (fun c1 => ?_) (fun c1 => ?_)
  · have hB := if_n hB c1
    refine lv_aload_n hx hb dX11_undo_9 rfl (lv_at hl 0 rfl) ?_
    refine lv_dup hx hb dX11_undo_10 rfl ?_
    refine q_get (v := .int (s.v 48)) C inX11_undo_X11 hK hP 0 rfl rfl 48 (by decide) rfl LX11_undo_230 rfl dX11_undo_11 ?_
    refine lv_iconst (v := 1) hx hb dX11_undo_14 (by decide) ?_
    refine lv_isub hx hb dX11_undo_15 ?_
    obtain ⟨s2, hs3, hB⟩ := letS_inv hB
    refine q_put (ty := .int) (w2 := (mwS cB cI cJ cZ h a s2)) tyX11 tyX11_ok nmX11 C inX11_undo_X11 hK hP hD hS 0 rfl rfl 48 (by decide) rfl LX11_undo_230 rfl (by decide +kernel) (rfl) rfl (Nat.le_of_ble_eq_true rfl) dX11_undo_16 (mwS_v48 hs3) (fun H locs hP hD hS => ?_)
    refine lv_iconst (v := 0) hx hb dX11_undo_19 (by decide) ?_
    refine lv_istore_n (lv' := [(1, .int 0), (0, .ref h)]) hx hb dX11_undo_20 rfl hl (by decide) rfl (fun ls hl => ?_)
    exact br_undo_21L fu _ _ hB p e s0 m below meth c A E H locs ls hP hD hS (lv_sub hl [1, 0] rfl)
  · have hB := if_p hB c1
    refine lv_iconst (v := 0) hx hb dX11_undo_7 (by decide) ?_
    exact q_zret C hr hlocks (Or.inl rfl) hK hP hD hS (Nat.le_of_ble_eq_true rfl) (Nat.le_of_ble_eq_true rfl) dX11_undo_8 (by cases hB; exact ⟨rfl, rfl⟩)
theorem cr_undo {l : Launch} {dC : Nat → ClassId} {dI : Nat → Nat → Nat} {cB cI cJ cZ cS : ClassId} {h : Nat} {a : Nat → Nat} {r : Int32} {s' : RS} {s : RS} (hB : r_undo s = some (r, s')) : CI l yX11_undo wsX11_undo ({ frames := 0, cells := 0, slots := 0, locals := 0 }) (dC, dI) (tysA cB cI cJ cZ cS) (mwS cB cI cJ cZ h a s) [.ref h] (fun x u => x = r ∧ u = (mwS cB cI cJ cZ h a s')) :=
  CI_of (cc := cX11_undo) (maxL := 2) (ret := (some .boolean)) (by decide) rfl (Nat.le_of_ble_eq_true rfl) (br_undo _ hB)
theorem LX11_casesNow_215 : Cond.fieldLink RX11 215 "GuessFerryModel" "live" "I" ∈ wsX11_casesNow := by decide +kernel
theorem LX11_casesNow_40 : Cond.fieldLink RX11 40 "GuessFerryModel" "waves" "[I" ∈ wsX11_casesNow := by decide +kernel
theorem inX11_casesNow_X11 : ∀ w ∈ u_ws RX11 TX11 58, w ∈ wsX11_casesNow := by decide +kernel
set_option maxHeartbeats 4000000 in
set_option maxRecDepth 100000 in
theorem br_casesNow_4 {l : Launch} {dC : Nat → ClassId} {dI : Nat → Nat → Nat} {cB cI cJ cZ cS : ClassId} {h : Nat} {a : Nat → Nat} {as : List Value} {r : Int32} {s' : RS} {k4 : RS → Int32 → Int32 → Option (Int32 × RS)} (hk4 : ∀ (s : RS) (x1 : Int32) (x2 : Int32), k4 s x1 x2 = some (r, s') → BlkI l yX11_casesNow wsX11_casesNow ({ frames := 2, cells := 0, slots := 0, locals := 45 }) cX11_casesNow 3 (some .int) (dC, dI) (tysA cB cI cJ cZ cS) as 4 (mwS cB cI cJ cZ h a s) [(0, .ref h), (1, .int x1), (2, .int x2)] [] (fun x u => x = r ∧ u = (mwS cB cI cJ cZ h a s'))) (s : RS) (x1 : Int32) (x2 : Int32) (hB : r_casesNow_4 k4 s x1 x2 = some (r, s')) : BlkI l yX11_casesNow wsX11_casesNow ({ frames := 2, cells := 0, slots := 0, locals := 45 }) cX11_casesNow 3 (some .int) (dC, dI) (tysA cB cI cJ cZ cS) as 4 (mwS cB cI cJ cZ h a s) [(0, .ref h), (1, .int x1), (2, .int x2)] [] (fun x u => x = r ∧ u = (mwS cB cI cJ cZ h a s')) := by
  intro p e s0 m below meth c A E H locs ls hP hD hS hl
  obtain ⟨C, hr, hlocks, hA, hK, hN⟩ := id E
  obtain ⟨hx, hb, hml, hown, hts⟩ := id C
  unfold r_casesNow_4 at hB
  refine lv_iload_n hx hb dX11_casesNow_4 rfl (lv_at hl 2 rfl) ?_
  refine lv_aload_n hx hb dX11_casesNow_5 rfl (lv_at hl 0 rfl) ?_
  refine q_get (v := .ref (a 20)) C inX11_casesNow_X11 hK hP 0 rfl rfl 20 (by decide) rfl LX11_casesNow_40 rfl dX11_casesNow_6 ?_
  refine lv_aload_n hx hb dX11_casesNow_9 rfl (lv_at hl 0 rfl) ?_
  refine q_get (v := .int (s.v 18)) C inX11_casesNow_X11 hK hP 0 rfl rfl 18 (by decide) rfl LX11_casesNow_215 rfl dX11_casesNow_10 ?_
  obtain ⟨g1, hB⟩ := guard_inv hB
  refine q_iald (x := (s.f 20 (Int32.toNatClampNeg (s.v 18)))) C hK hP 8 1 rfl rfl (vpb_in g1) dX11_casesNow_13 rfl ?_
  refine lv_icmp_ge (tgt := 34) hx hb dX11_casesNow_14 (by decide) (fun c2 => ?_) (fun c2 => ?_)
  · have hB := if_p hB c2
    refine lv_iload_n hx hb dX11_casesNow_34 rfl (lv_at hl 1 rfl) ?_
    exact q_iret C hr hlocks hK hP hD hS (Nat.le_of_ble_eq_true rfl) (Nat.le_of_ble_eq_true rfl) dX11_casesNow_35 (by cases hB; exact ⟨rfl, rfl⟩)
  · have hB := if_n hB c2
    refine lv_iload_n hx hb dX11_casesNow_17 rfl (lv_at hl 1 rfl) ?_
    refine lv_aload_n hx hb dX11_casesNow_18 rfl (lv_at hl 0 rfl) ?_
    refine lv_iload_n hx hb dX11_casesNow_19 rfl (lv_at hl 2 rfl) ?_
    obtain ⟨q_, s3, hc, hB⟩ := bindI_inv hB
    refine q_goiF (va_runV (As := [.int x2]) (rest := [.int x1]) C (cr_mayAt hc _) (cwV 1 hts gX11_casesNow_X11_mayAt rfl rfl rfl (by decide +kernel) ⟨Nat.le_of_ble_eq_true rfl, Nat.le_of_ble_eq_true rfl⟩) (q_preV hK hP (ci := 11) (q0 := 0) rfl rfl rfl (q_preF hN hK hP hD)) rfl rfl hl.1 rfl (lv_room (Nat.le_of_ble_eq_true rfl)) dX11_casesNow_20 ⟨Nat.le_of_ble_eq_true rfl, Nat.le_of_ble_eq_true rfl⟩) hD hS hA (fun r4 w1 H locs hw hP hD hS => ?_)
    obtain ⟨hq_, hw⟩ := hw; subst hw; subst hq_
    obtain ⟨q_, hc, hB⟩ := bindP_inv hB
    refine q_goi0 (va_runS (As := [.int r4]) (rest := [.int x1]) C (cr_bits hc _) (va_cwS 1 hts gX11_casesNow_X11_bits rfl rfl rfl (by decide +kernel) ⟨Nat.le_of_ble_eq_true rfl, Nat.le_of_ble_eq_true rfl⟩) (q_pre0 hN hK) rfl rfl hl.1 rfl (lv_room (Nat.le_of_ble_eq_true rfl)) dX11_casesNow_23 ⟨Nat.le_of_ble_eq_true rfl, Nat.le_of_ble_eq_true rfl⟩) hP hD hS hA (fun r5 w1 H locs hw hP hS => ?_)
    subst hw
    refine lv_imul hx hb dX11_casesNow_26 ?_
    refine lv_istore_n (lv' := [(1, .int (x1 * r5)), (0, .ref h), (2, .int x2)]) hx hb dX11_casesNow_27 rfl hl (by decide) rfl (fun ls hl => ?_)
    refine lv_iinc (v := (x2 + 1)) (lv' := [(2, .int (x2 + 1)), (1, .int (x1 * r5)), (0, .ref h)]) hx hb dX11_casesNow_28 hl (k := 2) rfl (rfl) (by decide) rfl (fun ls hl => ?_)
    refine lv_goto (tgt := 4) hx hb dX11_casesNow_31 (by decide) ?_
    exact hk4 _ _ _ hB p e s0 m below meth c A E H locs ls hP hD hS (lv_sub hl [2, 1, 0] rfl)
theorem br_casesNow_4L {l : Launch} {dC : Nat → ClassId} {dI : Nat → Nat → Nat} {cB cI cJ cZ cS : ClassId} {h : Nat} {a : Nat → Nat} {as : List Value} {r : Int32} {s' : RS} : ∀ (n : Nat) (s : RS) (x1 : Int32) (x2 : Int32), r_casesNow_4L n s x1 x2 = some (r, s') → BlkI l yX11_casesNow wsX11_casesNow ({ frames := 2, cells := 0, slots := 0, locals := 45 }) cX11_casesNow 3 (some .int) (dC, dI) (tysA cB cI cJ cZ cS) as 4 (mwS cB cI cJ cZ h a s) [(0, .ref h), (1, .int x1), (2, .int x2)] [] (fun x u => x = r ∧ u = (mwS cB cI cJ cZ h a s')) := by
  intro n
  induction n with
  | zero => intro s x1 x2 hB; exact none_ne hB
  | succ n ih => intro s x1 x2 hB; exact br_casesNow_4 ih _ _ _ hB
set_option maxHeartbeats 4000000 in
set_option maxRecDepth 100000 in
theorem br_casesNow {l : Launch} {dC : Nat → ClassId} {dI : Nat → Nat → Nat} {cB cI cJ cZ cS : ClassId} {h : Nat} {a : Nat → Nat} {as : List Value} {r : Int32} {s' : RS} (s : RS) (hB : r_casesNow s = some (r, s')) : BlkI l yX11_casesNow wsX11_casesNow ({ frames := 2, cells := 0, slots := 0, locals := 45 }) cX11_casesNow 3 (some .int) (dC, dI) (tysA cB cI cJ cZ cS) as 0 (mwS cB cI cJ cZ h a s) [(0, .ref h)] [] (fun x u => x = r ∧ u = (mwS cB cI cJ cZ h a s')) := by
  intro p e s0 m below meth c A E H locs ls hP hD hS hl
  obtain ⟨C, hr, hlocks, hA, hK, hN⟩ := id E
  obtain ⟨hx, hb, hml, hown, hts⟩ := id C
  unfold r_casesNow at hB
  refine lv_iconst (v := 1) hx hb dX11_casesNow_0 (by decide) ?_
  refine lv_istore_n (lv' := [(1, .int 1), (0, .ref h)]) hx hb dX11_casesNow_1 rfl hl (by decide) rfl (fun ls hl => ?_)
  refine lv_iconst (v := 0) hx hb dX11_casesNow_2 (by decide) ?_
  refine lv_istore_n (lv' := [(2, .int 0), (1, .int 1), (0, .ref h)]) hx hb dX11_casesNow_3 rfl hl (by decide) rfl (fun ls hl => ?_)
  exact br_casesNow_4L fu _ _ _ hB p e s0 m below meth c A E H locs ls hP hD hS (lv_sub hl [2, 1, 0] rfl)
theorem cr_casesNow {l : Launch} {dC : Nat → ClassId} {dI : Nat → Nat → Nat} {cB cI cJ cZ cS : ClassId} {h : Nat} {a : Nat → Nat} {r : Int32} {s' : RS} {s : RS} (hB : r_casesNow s = some (r, s')) : CI l yX11_casesNow wsX11_casesNow ({ frames := 2, cells := 0, slots := 0, locals := 45 }) (dC, dI) (tysA cB cI cJ cZ cS) (mwS cB cI cJ cZ h a s) [.ref h] (fun x u => x = r ∧ u = (mwS cB cI cJ cZ h a s')) :=
  CI_of (cc := cX11_casesNow) (maxL := 3) (ret := (some .int)) (by decide) rfl (Nat.le_of_ble_eq_true rfl) (br_casesNow _ hB)
set_option maxHeartbeats 4000000 in
set_option maxRecDepth 100000 in
theorem br_cases {l : Launch} {dC : Nat → ClassId} {dI : Nat → Nat → Nat} {cB cI cJ cZ cS : ClassId} {h : Nat} {a : Nat → Nat} {as : List Value} {r : Int32} {s' : RS} (s : RS) (hB : r_cases s = some (r, s')) : BlkI l yX11_cases wsX11_cases ({ frames := 3, cells := 0, slots := 0, locals := 67 }) cX11_cases 1 (some .int) (dC, dI) (tysA cB cI cJ cZ cS) as 0 (mwS cB cI cJ cZ h a s) [(0, .ref h)] [] (fun x u => x = r ∧ u = (mwS cB cI cJ cZ h a s')) := by
  intro p e s0 m below meth c A E H locs ls hP hD hS hl
  obtain ⟨C, hr, hlocks, hA, hK, hN⟩ := id E
  obtain ⟨hx, hb, hml, hown, hts⟩ := id C
  unfold r_cases at hB
  refine lv_aload_n hx hb dX11_cases_0 rfl (lv_at hl 0 rfl) ?_
  obtain ⟨s1, hc, hB⟩ := bindP_inv hB
  refine q_govF (va_runV (As := []) (rest := []) C (cr_copies hc _) (cwV 0 hts gX11_cases_X11_copies rfl rfl rfl (by decide +kernel) ⟨Nat.le_of_ble_eq_true rfl, Nat.le_of_ble_eq_true rfl⟩) (q_preV hK hP (ci := 11) (q0 := 0) rfl rfl rfl (q_preF hN hK hP hD)) rfl rfl hl.1 rfl (lv_room (Nat.le_of_ble_eq_true rfl)) dX11_cases_1 ⟨Nat.le_of_ble_eq_true rfl, Nat.le_of_ble_eq_true rfl⟩) hD hS hA (fun w1 H locs hw hP hD hS => ?_)
  subst hw
  refine lv_aload_n hx hb dX11_cases_4 rfl (lv_at hl 0 rfl) ?_
  obtain ⟨q_, s2, hc, hB⟩ := bindI_inv hB
  refine q_goiF (va_runV (As := []) (rest := []) C (cr_casesNow hc _) (cwV 0 hts gX11_cases_X11_casesNow rfl rfl rfl (by decide +kernel) ⟨Nat.le_of_ble_eq_true rfl, Nat.le_of_ble_eq_true rfl⟩) (q_preV hK hP (ci := 11) (q0 := 0) rfl rfl rfl (q_preF hN hK hP hD)) rfl rfl hl.1 rfl (lv_room (Nat.le_of_ble_eq_true rfl)) dX11_cases_5 ⟨Nat.le_of_ble_eq_true rfl, Nat.le_of_ble_eq_true rfl⟩) hD hS hA (fun r3 w1 H locs hw hP hD hS => ?_)
  obtain ⟨hq_, hw⟩ := hw; subst hw; subst hq_
  exact q_iret C hr hlocks hK hP hD hS (Nat.le_of_ble_eq_true rfl) (Nat.le_of_ble_eq_true rfl) dX11_cases_8 (by cases hB; exact ⟨rfl, rfl⟩)
theorem cr_cases {l : Launch} {dC : Nat → ClassId} {dI : Nat → Nat → Nat} {cB cI cJ cZ cS : ClassId} {h : Nat} {a : Nat → Nat} {r : Int32} {s' : RS} {s : RS} (hB : r_cases s = some (r, s')) : CI l yX11_cases wsX11_cases ({ frames := 3, cells := 0, slots := 0, locals := 67 }) (dC, dI) (tysA cB cI cJ cZ cS) (mwS cB cI cJ cZ h a s) [.ref h] (fun x u => x = r ∧ u = (mwS cB cI cJ cZ h a s')) :=
  CI_of (cc := cX11_cases) (maxL := 1) (ret := (some .int)) (by decide) rfl (Nat.le_of_ble_eq_true rfl) (br_cases _ hB)
set_option maxHeartbeats 4000000 in
set_option maxRecDepth 100000 in
theorem br_mayBe {l : Launch} {dC : Nat → ClassId} {dI : Nat → Nat → Nat} {cB cI cJ cZ cS : ClassId} {h : Nat} {a : Nat → Nat} {as : List Value} {r : Int32} {s' : RS} (s : RS) (x1 : Int32) (x2 : Int32) (hB : r_mayBe s x1 x2 = some (r, s')) : BlkI l yX11_mayBe wsX11_mayBe ({ frames := 2, cells := 0, slots := 0, locals := 45 }) cX11_mayBe 3 (some .boolean) (dC, dI) (tysA cB cI cJ cZ cS) as 0 (mwS cB cI cJ cZ h a s) [(0, .ref h), (1, .int x1), (2, .int x2)] [] (fun x u => x = r ∧ u = (mwS cB cI cJ cZ h a s')) := by
  intro p e s0 m below meth c A E H locs ls hP hD hS hl
  obtain ⟨C, hr, hlocks, hA, hK, hN⟩ := id E
  obtain ⟨hx, hb, hml, hown, hts⟩ := id C
  unfold r_mayBe at hB
  refine lv_aload_n hx hb dX11_mayBe_0 rfl (lv_at hl 0 rfl) ?_
  refine lv_iload_n hx hb dX11_mayBe_1 rfl (lv_at hl 1 rfl) ?_
  obtain ⟨q_, s1, hc, hB⟩ := bindI_inv hB
  refine q_goiF (va_runV (As := [.int x1]) (rest := []) C (cr_mayAt hc _) (cwV 1 hts gX11_mayBe_X11_mayAt rfl rfl rfl (by decide +kernel) ⟨Nat.le_of_ble_eq_true rfl, Nat.le_of_ble_eq_true rfl⟩) (q_preV hK hP (ci := 11) (q0 := 0) rfl rfl rfl (q_preF hN hK hP hD)) rfl rfl hl.1 rfl (lv_room (Nat.le_of_ble_eq_true rfl)) dX11_mayBe_2 ⟨Nat.le_of_ble_eq_true rfl, Nat.le_of_ble_eq_true rfl⟩) hD hS hA (fun r2 w1 H locs hw hP hD hS => ?_)
  obtain ⟨hq_, hw⟩ := hw; subst hw; subst hq_
  refine lv_iload_n hx hb dX11_mayBe_5 rfl (lv_at hl 2 rfl) ?_
  refine lv_ishr hx hb dX11_mayBe_6 ?_
  refine lv_iconst (v := 1) hx hb dX11_mayBe_7 (by decide) ?_
  refine lv_iand hx hb dX11_mayBe_8 ?_
  refine lv_iconst (v := 1) hx hb dX11_mayBe_9 (by decide) ?_
  refine lv_icmp_ne (tgt := 17) hx hb dX11_mayBe_10 (by decide) (fun c3 => ?_) (fun c3 => ?_)
  · have hB := if_n hB c3
    refine lv_iconst (v := 0) hx hb dX11_mayBe_17 (by decide) ?_
    exact q_zret C hr hlocks (Or.inl rfl) hK hP hD hS (Nat.le_of_ble_eq_true rfl) (Nat.le_of_ble_eq_true rfl) dX11_mayBe_18 (by cases hB; exact ⟨rfl, rfl⟩)
  · have hB := if_p hB c3
    refine lv_iconst (v := 1) hx hb dX11_mayBe_13 (by decide) ?_
    refine lv_goto (tgt := 18) hx hb dX11_mayBe_14 (by decide) ?_
    exact q_zret C hr hlocks (Or.inr rfl) hK hP hD hS (Nat.le_of_ble_eq_true rfl) (Nat.le_of_ble_eq_true rfl) dX11_mayBe_18 (by cases hB; exact ⟨rfl, rfl⟩)
theorem cr_mayBe {l : Launch} {dC : Nat → ClassId} {dI : Nat → Nat → Nat} {cB cI cJ cZ cS : ClassId} {h : Nat} {a : Nat → Nat} {r : Int32} {s' : RS} {s : RS} {x1 : Int32} {x2 : Int32} (hB : r_mayBe s x1 x2 = some (r, s')) : CI l yX11_mayBe wsX11_mayBe ({ frames := 2, cells := 0, slots := 0, locals := 45 }) (dC, dI) (tysA cB cI cJ cZ cS) (mwS cB cI cJ cZ h a s) [.ref h, .int x1, .int x2] (fun x u => x = r ∧ u = (mwS cB cI cJ cZ h a s')) :=
  CI_of (cc := cX11_mayBe) (maxL := 3) (ret := (some .boolean)) (by decide) rfl (Nat.le_of_ble_eq_true rfl) (br_mayBe _ _ _ hB)
theorem LX11_chanceOf_215 : Cond.fieldLink RX11 215 "GuessFerryModel" "live" "I" ∈ wsX11_chanceOf := by decide +kernel
theorem LX11_chanceOf_40 : Cond.fieldLink RX11 40 "GuessFerryModel" "waves" "[I" ∈ wsX11_chanceOf := by decide +kernel
theorem inX11_chanceOf_X11 : ∀ w ∈ u_ws RX11 TX11 58, w ∈ wsX11_chanceOf := by decide +kernel
set_option maxHeartbeats 4000000 in
set_option maxRecDepth 100000 in
theorem br_chanceOf_47 {l : Launch} {dC : Nat → ClassId} {dI : Nat → Nat → Nat} {cB cI cJ cZ cS : ClassId} {h : Nat} {a : Nat → Nat} {as : List Value} {r : Int32} {s' : RS} {k4 : RS → Int32 → Int32 → Int32 → Option (Int32 × RS)} (hk4 : ∀ (s : RS) (x1 : Int32) (x2 : Int32) (x3 : Int32), k4 s x1 x2 x3 = some (r, s') → BlkI l yX11_chanceOf wsX11_chanceOf ({ frames := 3, cells := 0, slots := 0, locals := 67 }) cX11_chanceOf 5 (some .int) (dC, dI) (tysA cB cI cJ cZ cS) as 4 (mwS cB cI cJ cZ h a s) [(0, .ref h), (1, .int x1), (2, .int x2), (3, .int x3)] [] (fun x u => x = r ∧ u = (mwS cB cI cJ cZ h a s'))) (s : RS) (x1 : Int32) (x3 : Int32) (t0 : Int32) (t1 : Int32) (hB : r_chanceOf_47 k4 s x1 x3 t0 t1 = some (r, s')) : BlkI l yX11_chanceOf wsX11_chanceOf ({ frames := 3, cells := 0, slots := 0, locals := 67 }) cX11_chanceOf 5 (some .int) (dC, dI) (tysA cB cI cJ cZ cS) as 47 (mwS cB cI cJ cZ h a s) [(0, .ref h), (1, .int x1), (3, .int x3)] [.int t0, .int t1] (fun x u => x = r ∧ u = (mwS cB cI cJ cZ h a s')) := by
  intro p e s0 m below meth c A E H locs ls hP hD hS hl
  obtain ⟨C, hr, hlocks, hA, hK, hN⟩ := id E
  obtain ⟨hx, hb, hml, hown, hts⟩ := id C
  unfold r_chanceOf_47 at hB
  refine lv_imul hx hb dX11_chanceOf_47 ?_
  refine lv_istore_n (lv' := [(2, .int (t1 * t0)), (0, .ref h), (1, .int x1), (3, .int x3)]) hx hb dX11_chanceOf_48 rfl hl (by decide) rfl (fun ls hl => ?_)
  refine lv_iinc (v := (x3 + 1)) (lv' := [(3, .int (x3 + 1)), (2, .int (t1 * t0)), (0, .ref h), (1, .int x1)]) hx hb dX11_chanceOf_49 hl (k := 3) rfl (rfl) (by decide) rfl (fun ls hl => ?_)
  refine lv_goto (tgt := 4) hx hb dX11_chanceOf_52 (by decide) ?_
  exact hk4 _ _ _ _ hB p e s0 m below meth c A E H locs ls hP hD hS (lv_sub hl [2, 3, 1, 0] rfl)
set_option maxHeartbeats 4000000 in
set_option maxRecDepth 100000 in
theorem br_chanceOf_4 {l : Launch} {dC : Nat → ClassId} {dI : Nat → Nat → Nat} {cB cI cJ cZ cS : ClassId} {h : Nat} {a : Nat → Nat} {as : List Value} {r : Int32} {s' : RS} {k4 : RS → Int32 → Int32 → Int32 → Option (Int32 × RS)} (hk4 : ∀ (s : RS) (x1 : Int32) (x2 : Int32) (x3 : Int32), k4 s x1 x2 x3 = some (r, s') → BlkI l yX11_chanceOf wsX11_chanceOf ({ frames := 3, cells := 0, slots := 0, locals := 67 }) cX11_chanceOf 5 (some .int) (dC, dI) (tysA cB cI cJ cZ cS) as 4 (mwS cB cI cJ cZ h a s) [(0, .ref h), (1, .int x1), (2, .int x2), (3, .int x3)] [] (fun x u => x = r ∧ u = (mwS cB cI cJ cZ h a s'))) (s : RS) (x1 : Int32) (x2 : Int32) (x3 : Int32) (hB : r_chanceOf_4 k4 s x1 x2 x3 = some (r, s')) : BlkI l yX11_chanceOf wsX11_chanceOf ({ frames := 3, cells := 0, slots := 0, locals := 67 }) cX11_chanceOf 5 (some .int) (dC, dI) (tysA cB cI cJ cZ cS) as 4 (mwS cB cI cJ cZ h a s) [(0, .ref h), (1, .int x1), (2, .int x2), (3, .int x3)] [] (fun x u => x = r ∧ u = (mwS cB cI cJ cZ h a s')) := by
  intro p e s0 m below meth c A E H locs ls hP hD hS hl
  obtain ⟨C, hr, hlocks, hA, hK, hN⟩ := id E
  obtain ⟨hx, hb, hml, hown, hts⟩ := id C
  unfold r_chanceOf_4 at hB
  refine lv_iload_n hx hb dX11_chanceOf_4 rfl (lv_at hl 3 rfl) ?_
  refine lv_aload_n hx hb dX11_chanceOf_5 rfl (lv_at hl 0 rfl) ?_
  refine q_get (v := .ref (a 20)) C inX11_chanceOf_X11 hK hP 0 rfl rfl 20 (by decide) rfl LX11_chanceOf_40 rfl dX11_chanceOf_6 ?_
  refine lv_aload_n hx hb dX11_chanceOf_9 rfl (lv_at hl 0 rfl) ?_
  refine q_get (v := .int (s.v 18)) C inX11_chanceOf_X11 hK hP 0 rfl rfl 18 (by decide) rfl LX11_chanceOf_215 rfl dX11_chanceOf_10 ?_
  obtain ⟨g1, hB⟩ := guard_inv hB
  refine q_iald (x := (s.f 20 (Int32.toNatClampNeg (s.v 18)))) C hK hP 8 1 rfl rfl (vpb_in g1) dX11_chanceOf_13 rfl ?_
  refine lv_icmp_ge (tgt := 55) hx hb dX11_chanceOf_14 (by decide) (fun c2 => ?_) (fun c2 => ?_)
  · have hB := if_p hB c2
    refine lv_iload_n hx hb dX11_chanceOf_55 rfl (lv_at hl 2 rfl) ?_
    exact q_iret C hr hlocks hK hP hD hS (Nat.le_of_ble_eq_true rfl) (Nat.le_of_ble_eq_true rfl) dX11_chanceOf_56 (by cases hB; exact ⟨rfl, rfl⟩)
  · have hB := if_n hB c2
    refine lv_aload_n hx hb dX11_chanceOf_17 rfl (lv_at hl 0 rfl) ?_
    refine lv_iload_n hx hb dX11_chanceOf_18 rfl (lv_at hl 1 rfl) ?_
    refine lv_iload_n hx hb dX11_chanceOf_19 rfl (lv_at hl 3 rfl) ?_
    obtain ⟨q_, s3, hc, hB⟩ := bindI_inv hB
    refine q_goiF (va_runV (As := [.int x1, .int x3]) (rest := []) C (cr_thingAt hc _) (cwV 2 hts gX11_chanceOf_X11_thingAt rfl rfl rfl (by decide +kernel) ⟨Nat.le_of_ble_eq_true rfl, Nat.le_of_ble_eq_true rfl⟩) (q_preV hK hP (ci := 11) (q0 := 0) rfl rfl rfl (q_preF hN hK hP hD)) rfl rfl hl.1 rfl (lv_room (Nat.le_of_ble_eq_true rfl)) dX11_chanceOf_20 ⟨Nat.le_of_ble_eq_true rfl, Nat.le_of_ble_eq_true rfl⟩) hD hS hA (fun r4 w1 H locs hw hP hD hS => ?_)
    obtain ⟨hq_, hw⟩ := hw; subst hw; subst hq_
    refine lv_istore (lv' := [(4, .int r4), (0, .ref h), (1, .int x1), (2, .int x2), (3, .int x3)]) hx hb dX11_chanceOf_23 hl (by decide) rfl (fun ls hl => ?_)
    refine lv_iload_n hx hb dX11_chanceOf_25 rfl (lv_at hl 3 rfl) ?_
    refine lv_aload_n hx hb dX11_chanceOf_26 rfl (lv_at hl 1 rfl) ?_
    refine lv_iload_n hx hb dX11_chanceOf_27 rfl (lv_at hl 4 rfl) ?_
    refine lv_iload hx hb dX11_chanceOf_28 (lv_at hl 0 rfl) ?_
    obtain ⟨q_, s5, hc, hB⟩ := bindI_inv hB
    refine q_goiF (va_runV (As := [.int x3, .int r4]) (rest := [.int x2]) C (cr_mayBe hc _) (cwV 2 hts gX11_chanceOf_X11_mayBe rfl rfl rfl (by decide +kernel) ⟨Nat.le_of_ble_eq_true rfl, Nat.le_of_ble_eq_true rfl⟩) (q_preV hK hP (ci := 11) (q0 := 0) rfl rfl rfl (q_preF hN hK hP hD)) rfl rfl hl.1 rfl (lv_room (Nat.le_of_ble_eq_true rfl)) dX11_chanceOf_30 ⟨Nat.le_of_ble_eq_true rfl, Nat.le_of_ble_eq_true rfl⟩) hD hS hA (fun r6 w1 H locs hw hP hD hS => ?_)
    obtain ⟨hq_, hw⟩ := hw; subst hw; subst hq_
    refine lv_if_eq (tgt := 46) hx hb dX11_chanceOf_33 (by decide) (fun c7 => ?_) (fun c7 => ?_)
    · have hB := if_p hB c7
      refine lv_iconst (v := 0) hx hb dX11_chanceOf_46 (by decide) ?_
      exact br_chanceOf_47 (hk4) _ _ _ _ _ hB p e s0 m below meth c A E H locs ls hP hD hS (lv_sub hl [1, 2, 4] rfl)
    · have hB := if_n hB c7
      refine lv_aload_n hx hb dX11_chanceOf_36 rfl (lv_at hl 1 rfl) ?_
      refine lv_iload_n hx hb dX11_chanceOf_37 rfl (lv_at hl 4 rfl) ?_
      refine lv_iload hx hb dX11_chanceOf_38 (lv_at hl 0 rfl) ?_
      obtain ⟨q_, s8, hc, hB⟩ := bindI_inv hB
      refine q_goiF (va_runV (As := [.int x3, .int r4]) (rest := [.int x2]) C (cr_oddsAt hc _) (cwV 2 hts gX11_chanceOf_X11_oddsAt rfl rfl rfl (by decide +kernel) ⟨Nat.le_of_ble_eq_true rfl, Nat.le_of_ble_eq_true rfl⟩) (q_preV hK hP (ci := 11) (q0 := 0) rfl rfl rfl (q_preF hN hK hP hD)) rfl rfl hl.1 rfl (lv_room (Nat.le_of_ble_eq_true rfl)) dX11_chanceOf_40 ⟨Nat.le_of_ble_eq_true rfl, Nat.le_of_ble_eq_true rfl⟩) hD hS hA (fun r9 w1 H locs hw hP hD hS => ?_)
      obtain ⟨hq_, hw⟩ := hw; subst hw; subst hq_
      refine lv_goto (tgt := 47) hx hb dX11_chanceOf_43 (by decide) ?_
      exact br_chanceOf_47 (hk4) _ _ _ _ _ hB p e s0 m below meth c A E H locs ls hP hD hS (lv_sub hl [1, 2, 4] rfl)
theorem br_chanceOf_4L {l : Launch} {dC : Nat → ClassId} {dI : Nat → Nat → Nat} {cB cI cJ cZ cS : ClassId} {h : Nat} {a : Nat → Nat} {as : List Value} {r : Int32} {s' : RS} : ∀ (n : Nat) (s : RS) (x1 : Int32) (x2 : Int32) (x3 : Int32), r_chanceOf_4L n s x1 x2 x3 = some (r, s') → BlkI l yX11_chanceOf wsX11_chanceOf ({ frames := 3, cells := 0, slots := 0, locals := 67 }) cX11_chanceOf 5 (some .int) (dC, dI) (tysA cB cI cJ cZ cS) as 4 (mwS cB cI cJ cZ h a s) [(0, .ref h), (1, .int x1), (2, .int x2), (3, .int x3)] [] (fun x u => x = r ∧ u = (mwS cB cI cJ cZ h a s')) := by
  intro n
  induction n with
  | zero => intro s x1 x2 x3 hB; exact none_ne hB
  | succ n ih => intro s x1 x2 x3 hB; exact br_chanceOf_4 ih _ _ _ _ hB
set_option maxHeartbeats 4000000 in
set_option maxRecDepth 100000 in
theorem br_chanceOf {l : Launch} {dC : Nat → ClassId} {dI : Nat → Nat → Nat} {cB cI cJ cZ cS : ClassId} {h : Nat} {a : Nat → Nat} {as : List Value} {r : Int32} {s' : RS} (s : RS) (x1 : Int32) (hB : r_chanceOf s x1 = some (r, s')) : BlkI l yX11_chanceOf wsX11_chanceOf ({ frames := 3, cells := 0, slots := 0, locals := 67 }) cX11_chanceOf 5 (some .int) (dC, dI) (tysA cB cI cJ cZ cS) as 0 (mwS cB cI cJ cZ h a s) [(0, .ref h), (1, .int x1)] [] (fun x u => x = r ∧ u = (mwS cB cI cJ cZ h a s')) := by
  intro p e s0 m below meth c A E H locs ls hP hD hS hl
  obtain ⟨C, hr, hlocks, hA, hK, hN⟩ := id E
  obtain ⟨hx, hb, hml, hown, hts⟩ := id C
  unfold r_chanceOf at hB
  refine lv_iconst (v := 1) hx hb dX11_chanceOf_0 (by decide) ?_
  refine lv_istore_n (lv' := [(2, .int 1), (0, .ref h), (1, .int x1)]) hx hb dX11_chanceOf_1 rfl hl (by decide) rfl (fun ls hl => ?_)
  refine lv_iconst (v := 0) hx hb dX11_chanceOf_2 (by decide) ?_
  refine lv_istore_n (lv' := [(3, .int 0), (2, .int 1), (0, .ref h), (1, .int x1)]) hx hb dX11_chanceOf_3 rfl hl (by decide) rfl (fun ls hl => ?_)
  exact br_chanceOf_4L fu _ _ _ _ hB p e s0 m below meth c A E H locs ls hP hD hS (lv_sub hl [2, 3, 1, 0] rfl)
theorem cr_chanceOf {l : Launch} {dC : Nat → ClassId} {dI : Nat → Nat → Nat} {cB cI cJ cZ cS : ClassId} {h : Nat} {a : Nat → Nat} {r : Int32} {s' : RS} {s : RS} {x1 : Int32} (hB : r_chanceOf s x1 = some (r, s')) : CI l yX11_chanceOf wsX11_chanceOf ({ frames := 3, cells := 0, slots := 0, locals := 67 }) (dC, dI) (tysA cB cI cJ cZ cS) (mwS cB cI cJ cZ h a s) [.ref h, .int x1] (fun x u => x = r ∧ u = (mwS cB cI cJ cZ h a s')) :=
  CI_of (cc := cX11_chanceOf) (maxL := 5) (ret := (some .int)) (by decide) rfl (Nat.le_of_ble_eq_true rfl) (br_chanceOf _ _ hB)
theorem LX11_isCase_215 : Cond.fieldLink RX11 215 "GuessFerryModel" "live" "I" ∈ wsX11_isCase := by decide +kernel
theorem LX11_isCase_40 : Cond.fieldLink RX11 40 "GuessFerryModel" "waves" "[I" ∈ wsX11_isCase := by decide +kernel
theorem inX11_isCase_X11 : ∀ w ∈ u_ws RX11 TX11 58, w ∈ wsX11_isCase := by decide +kernel
set_option maxHeartbeats 4000000 in
set_option maxRecDepth 100000 in
theorem br_isCase_2 {l : Launch} {dC : Nat → ClassId} {dI : Nat → Nat → Nat} {cB cI cJ cZ cS : ClassId} {h : Nat} {a : Nat → Nat} {as : List Value} {r : Int32} {s' : RS} {k2 : RS → Int32 → Int32 → Option (Int32 × RS)} (hk2 : ∀ (s : RS) (x1 : Int32) (x2 : Int32), k2 s x1 x2 = some (r, s') → BlkI l yX11_isCase wsX11_isCase ({ frames := 3, cells := 0, slots := 0, locals := 67 }) cX11_isCase 3 (some .boolean) (dC, dI) (tysA cB cI cJ cZ cS) as 2 (mwS cB cI cJ cZ h a s) [(0, .ref h), (1, .int x1), (2, .int x2)] [] (fun x u => x = r ∧ u = (mwS cB cI cJ cZ h a s'))) (s : RS) (x1 : Int32) (x2 : Int32) (hB : r_isCase_2 k2 s x1 x2 = some (r, s')) : BlkI l yX11_isCase wsX11_isCase ({ frames := 3, cells := 0, slots := 0, locals := 67 }) cX11_isCase 3 (some .boolean) (dC, dI) (tysA cB cI cJ cZ cS) as 2 (mwS cB cI cJ cZ h a s) [(0, .ref h), (1, .int x1), (2, .int x2)] [] (fun x u => x = r ∧ u = (mwS cB cI cJ cZ h a s')) := by
  intro p e s0 m below meth c A E H locs ls hP hD hS hl
  obtain ⟨C, hr, hlocks, hA, hK, hN⟩ := id E
  obtain ⟨hx, hb, hml, hown, hts⟩ := id C
  unfold r_isCase_2 at hB
  refine lv_iload_n hx hb dX11_isCase_2 rfl (lv_at hl 2 rfl) ?_
  refine lv_aload_n hx hb dX11_isCase_3 rfl (lv_at hl 0 rfl) ?_
  refine q_get (v := .ref (a 20)) C inX11_isCase_X11 hK hP 0 rfl rfl 20 (by decide) rfl LX11_isCase_40 rfl dX11_isCase_4 ?_
  refine lv_aload_n hx hb dX11_isCase_7 rfl (lv_at hl 0 rfl) ?_
  refine q_get (v := .int (s.v 18)) C inX11_isCase_X11 hK hP 0 rfl rfl 18 (by decide) rfl LX11_isCase_215 rfl dX11_isCase_8 ?_
  obtain ⟨g1, hB⟩ := guard_inv hB
  refine q_iald (x := (s.f 20 (Int32.toNatClampNeg (s.v 18)))) C hK hP 8 1 rfl rfl (vpb_in g1) dX11_isCase_11 rfl ?_
  refine lv_icmp_ge (tgt := 37) hx hb dX11_isCase_12 (by decide) (fun c2 => ?_) (fun c2 => ?_)
  · have hB := if_p hB c2
    refine lv_iconst (v := 1) hx hb dX11_isCase_37 (by decide) ?_
    exact q_zret C hr hlocks (Or.inr rfl) hK hP hD hS (Nat.le_of_ble_eq_true rfl) (Nat.le_of_ble_eq_true rfl) dX11_isCase_38 (by cases hB; exact ⟨rfl, rfl⟩)
  · have hB := if_n hB c2
    refine lv_aload_n hx hb dX11_isCase_15 rfl (lv_at hl 0 rfl) ?_
    refine lv_iload_n hx hb dX11_isCase_16 rfl (lv_at hl 2 rfl) ?_
    refine lv_aload_n hx hb dX11_isCase_17 rfl (lv_at hl 0 rfl) ?_
    refine lv_iload_n hx hb dX11_isCase_18 rfl (lv_at hl 1 rfl) ?_
    refine lv_iload_n hx hb dX11_isCase_19 rfl (lv_at hl 2 rfl) ?_
    obtain ⟨q_, s3, hc, hB⟩ := bindI_inv hB
    refine q_goiF (va_runV (As := [.int x1, .int x2]) (rest := [.int x2, .ref h]) C (cr_thingAt hc _) (cwV 2 hts gX11_isCase_X11_thingAt rfl rfl rfl (by decide +kernel) ⟨Nat.le_of_ble_eq_true rfl, Nat.le_of_ble_eq_true rfl⟩) (q_preV hK hP (ci := 11) (q0 := 0) rfl rfl rfl (q_preF hN hK hP hD)) rfl rfl hl.1 rfl (lv_room (Nat.le_of_ble_eq_true rfl)) dX11_isCase_20 ⟨Nat.le_of_ble_eq_true rfl, Nat.le_of_ble_eq_true rfl⟩) hD hS hA (fun r4 w1 H locs hw hP hD hS => ?_)
    obtain ⟨hq_, hw⟩ := hw; subst hw; subst hq_
    obtain ⟨q_, s5, hc, hB⟩ := bindI_inv hB
    refine q_goiF (va_runV (As := [.int x2, .int r4]) (rest := []) C (cr_mayBe hc _) (cwV 2 hts gX11_isCase_X11_mayBe rfl rfl rfl (by decide +kernel) ⟨Nat.le_of_ble_eq_true rfl, Nat.le_of_ble_eq_true rfl⟩) (q_preV hK hP (ci := 11) (q0 := 0) rfl rfl rfl (q_preF hN hK hP hD)) rfl rfl hl.1 rfl (lv_room (Nat.le_of_ble_eq_true rfl)) dX11_isCase_23 ⟨Nat.le_of_ble_eq_true rfl, Nat.le_of_ble_eq_true rfl⟩) hD hS hA (fun r6 w1 H locs hw hP hD hS => ?_)
    obtain ⟨hq_, hw⟩ := hw; subst hw; subst hq_
    refine lv_if_ne (tgt := 31) hx hb dX11_isCase_26 (by decide) (fun c7 => ?_) (fun c7 => ?_)
    · have hB := if_n hB c7
      refine lv_iinc (v := (x2 + 1)) (lv' := [(2, .int (x2 + 1)), (0, .ref h), (1, .int x1)]) hx hb dX11_isCase_31 hl (k := 2) rfl (rfl) (by decide) rfl (fun ls hl => ?_)
      refine lv_goto (tgt := 2) hx hb dX11_isCase_34 (by decide) ?_
      exact hk2 _ _ _ hB p e s0 m below meth c A E H locs ls hP hD hS (lv_sub hl [1, 2, 0] rfl)
    · have hB := if_p hB c7
      refine lv_iconst (v := 0) hx hb dX11_isCase_29 (by decide) ?_
      exact q_zret C hr hlocks (Or.inl rfl) hK hP hD hS (Nat.le_of_ble_eq_true rfl) (Nat.le_of_ble_eq_true rfl) dX11_isCase_30 (by cases hB; exact ⟨rfl, rfl⟩)
theorem br_isCase_2L {l : Launch} {dC : Nat → ClassId} {dI : Nat → Nat → Nat} {cB cI cJ cZ cS : ClassId} {h : Nat} {a : Nat → Nat} {as : List Value} {r : Int32} {s' : RS} : ∀ (n : Nat) (s : RS) (x1 : Int32) (x2 : Int32), r_isCase_2L n s x1 x2 = some (r, s') → BlkI l yX11_isCase wsX11_isCase ({ frames := 3, cells := 0, slots := 0, locals := 67 }) cX11_isCase 3 (some .boolean) (dC, dI) (tysA cB cI cJ cZ cS) as 2 (mwS cB cI cJ cZ h a s) [(0, .ref h), (1, .int x1), (2, .int x2)] [] (fun x u => x = r ∧ u = (mwS cB cI cJ cZ h a s')) := by
  intro n
  induction n with
  | zero => intro s x1 x2 hB; exact none_ne hB
  | succ n ih => intro s x1 x2 hB; exact br_isCase_2 ih _ _ _ hB
set_option maxHeartbeats 4000000 in
set_option maxRecDepth 100000 in
theorem br_isCase {l : Launch} {dC : Nat → ClassId} {dI : Nat → Nat → Nat} {cB cI cJ cZ cS : ClassId} {h : Nat} {a : Nat → Nat} {as : List Value} {r : Int32} {s' : RS} (s : RS) (x1 : Int32) (hB : r_isCase s x1 = some (r, s')) : BlkI l yX11_isCase wsX11_isCase ({ frames := 3, cells := 0, slots := 0, locals := 67 }) cX11_isCase 3 (some .boolean) (dC, dI) (tysA cB cI cJ cZ cS) as 0 (mwS cB cI cJ cZ h a s) [(0, .ref h), (1, .int x1)] [] (fun x u => x = r ∧ u = (mwS cB cI cJ cZ h a s')) := by
  intro p e s0 m below meth c A E H locs ls hP hD hS hl
  obtain ⟨C, hr, hlocks, hA, hK, hN⟩ := id E
  obtain ⟨hx, hb, hml, hown, hts⟩ := id C
  unfold r_isCase at hB
  refine lv_iconst (v := 0) hx hb dX11_isCase_0 (by decide) ?_
  refine lv_istore_n (lv' := [(2, .int 0), (0, .ref h), (1, .int x1)]) hx hb dX11_isCase_1 rfl hl (by decide) rfl (fun ls hl => ?_)
  exact br_isCase_2L fu _ _ _ hB p e s0 m below meth c A E H locs ls hP hD hS (lv_sub hl [1, 2, 0] rfl)
theorem cr_isCase {l : Launch} {dC : Nat → ClassId} {dI : Nat → Nat → Nat} {cB cI cJ cZ cS : ClassId} {h : Nat} {a : Nat → Nat} {r : Int32} {s' : RS} {s : RS} {x1 : Int32} (hB : r_isCase s x1 = some (r, s')) : CI l yX11_isCase wsX11_isCase ({ frames := 3, cells := 0, slots := 0, locals := 67 }) (dC, dI) (tysA cB cI cJ cZ cS) (mwS cB cI cJ cZ h a s) [.ref h, .int x1] (fun x u => x = r ∧ u = (mwS cB cI cJ cZ h a s')) :=
  CI_of (cc := cX11_isCase) (maxL := 3) (ret := (some .boolean)) (by decide) rfl (Nat.le_of_ble_eq_true rfl) (br_isCase _ _ hB)
set_option maxHeartbeats 4000000 in
set_option maxRecDepth 100000 in
theorem br_chance {l : Launch} {dC : Nat → ClassId} {dI : Nat → Nat → Nat} {cB cI cJ cZ cS : ClassId} {h : Nat} {a : Nat → Nat} {as : List Value} {r : Int32} {s' : RS} (s : RS) (x1 : Int32) (hB : r_chance s x1 = some (r, s')) : BlkI l yX11_chance wsX11_chance ({ frames := 4, cells := 0, slots := 0, locals := 91 }) cX11_chance 2 (some .int) (dC, dI) (tysA cB cI cJ cZ cS) as 0 (mwS cB cI cJ cZ h a s) [(0, .ref h), (1, .int x1)] [] (fun x u => x = r ∧ u = (mwS cB cI cJ cZ h a s')) := by
  intro p e s0 m below meth c A E H locs ls hP hD hS hl
  obtain ⟨C, hr, hlocks, hA, hK, hN⟩ := id E
  obtain ⟨hx, hb, hml, hown, hts⟩ := id C
  unfold r_chance at hB
  refine lv_aload_n hx hb dX11_chance_0 rfl (lv_at hl 0 rfl) ?_
  refine lv_iload_n hx hb dX11_chance_1 rfl (lv_at hl 1 rfl) ?_
  obtain ⟨q_, s1, hc, hB⟩ := bindI_inv hB
  refine q_goiF (va_runV (As := [.int x1]) (rest := []) C (cr_isGuess hc _) (cwV 1 hts gX11_chance_X11_isGuess rfl rfl rfl (by decide +kernel) ⟨Nat.le_of_ble_eq_true rfl, Nat.le_of_ble_eq_true rfl⟩) (q_preV hK hP (ci := 11) (q0 := 0) rfl rfl rfl (q_preF hN hK hP hD)) rfl rfl hl.1 rfl (lv_room (Nat.le_of_ble_eq_true rfl)) dX11_chance_2 ⟨Nat.le_of_ble_eq_true rfl, Nat.le_of_ble_eq_true rfl⟩) hD hS hA (fun r2 w1 H locs hw hP hD hS => ?_)
  obtain ⟨hq_, hw⟩ := hw; subst hw; subst hq_
  refine lv_if_ne (tgt := 10) hx hb dX11_chance_5 (by decide) (fun c3 => ?_) (fun c3 => ?_)
  · have hB := if_n hB c3
    refine lv_aload_n hx hb dX11_chance_10 rfl (lv_at hl 0 rfl) ?_
    obtain ⟨s4, hc, hB⟩ := bindP_inv hB
    refine q_govF (va_runV (As := []) (rest := []) C (cr_copies hc _) (cwV 0 hts gX11_chance_X11_copies rfl rfl rfl (by decide +kernel) ⟨Nat.le_of_ble_eq_true rfl, Nat.le_of_ble_eq_true rfl⟩) (q_preV hK hP (ci := 11) (q0 := 0) rfl rfl rfl (q_preF hN hK hP hD)) rfl rfl hl.1 rfl (lv_room (Nat.le_of_ble_eq_true rfl)) dX11_chance_11 ⟨Nat.le_of_ble_eq_true rfl, Nat.le_of_ble_eq_true rfl⟩) hD hS hA (fun w1 H locs hw hP hD hS => ?_)
    subst hw
    refine lv_aload_n hx hb dX11_chance_14 rfl (lv_at hl 0 rfl) ?_
    refine lv_iload_n hx hb dX11_chance_15 rfl (lv_at hl 1 rfl) ?_
    obtain ⟨q_, s5, hc, hB⟩ := bindI_inv hB
    refine q_goiF (va_runV (As := [.int x1]) (rest := []) C (cr_chanceOf hc _) (cwV 1 hts gX11_chance_X11_chanceOf rfl rfl rfl (by decide +kernel) ⟨Nat.le_of_ble_eq_true rfl, Nat.le_of_ble_eq_true rfl⟩) (q_preV hK hP (ci := 11) (q0 := 0) rfl rfl rfl (q_preF hN hK hP hD)) rfl rfl hl.1 rfl (lv_room (Nat.le_of_ble_eq_true rfl)) dX11_chance_16 ⟨Nat.le_of_ble_eq_true rfl, Nat.le_of_ble_eq_true rfl⟩) hD hS hA (fun r6 w1 H locs hw hP hD hS => ?_)
    obtain ⟨hq_, hw⟩ := hw; subst hw; subst hq_
    exact q_iret C hr hlocks hK hP hD hS (Nat.le_of_ble_eq_true rfl) (Nat.le_of_ble_eq_true rfl) dX11_chance_19 (by cases hB; exact ⟨rfl, rfl⟩)
  · have hB := if_p hB c3
    refine lv_iconst (v := (-1)) hx hb dX11_chance_8 (by decide) ?_
    exact q_iret C hr hlocks hK hP hD hS (Nat.le_of_ble_eq_true rfl) (Nat.le_of_ble_eq_true rfl) dX11_chance_9 (by cases hB; exact ⟨rfl, rfl⟩)
theorem cr_chance {l : Launch} {dC : Nat → ClassId} {dI : Nat → Nat → Nat} {cB cI cJ cZ cS : ClassId} {h : Nat} {a : Nat → Nat} {r : Int32} {s' : RS} {s : RS} {x1 : Int32} (hB : r_chance s x1 = some (r, s')) : CI l yX11_chance wsX11_chance ({ frames := 4, cells := 0, slots := 0, locals := 91 }) (dC, dI) (tysA cB cI cJ cZ cS) (mwS cB cI cJ cZ h a s) [.ref h, .int x1] (fun x u => x = r ∧ u = (mwS cB cI cJ cZ h a s')) :=
  CI_of (cc := cX11_chance) (maxL := 2) (ret := (some .int)) (by decide) rfl (Nat.le_of_ble_eq_true rfl) (br_chance _ _ hB)
set_option maxHeartbeats 4000000 in
set_option maxRecDepth 100000 in
theorem br_sumAt_28 {l : Launch} {dC : Nat → ClassId} {dI : Nat → Nat → Nat} {cB cI cJ cZ cS : ClassId} {h : Nat} {a : Nat → Nat} {as : List Value} {r : Int32} {s' : RS} {k4 : RS → Int32 → Int32 → Int32 → Option (Int32 × RS)} (hk4 : ∀ (s : RS) (x1 : Int32) (x2 : Int32) (x3 : Int32), k4 s x1 x2 x3 = some (r, s') → BlkI l yX11_sumAt wsX11_sumAt ({ frames := 3, cells := 0, slots := 0, locals := 67 }) cX11_sumAt 4 (some .int) (dC, dI) (tysA cB cI cJ cZ cS) as 4 (mwS cB cI cJ cZ h a s) [(0, .ref h), (1, .int x1), (2, .int x2), (3, .int x3)] [] (fun x u => x = r ∧ u = (mwS cB cI cJ cZ h a s'))) (s : RS) (x1 : Int32) (x2 : Int32) (x3 : Int32) (hB : r_sumAt_28 k4 s x1 x2 x3 = some (r, s')) : BlkI l yX11_sumAt wsX11_sumAt ({ frames := 3, cells := 0, slots := 0, locals := 67 }) cX11_sumAt 4 (some .int) (dC, dI) (tysA cB cI cJ cZ cS) as 28 (mwS cB cI cJ cZ h a s) [(0, .ref h), (1, .int x1), (2, .int x2), (3, .int x3)] [] (fun x u => x = r ∧ u = (mwS cB cI cJ cZ h a s')) := by
  intro p e s0 m below meth c A E H locs ls hP hD hS hl
  obtain ⟨C, hr, hlocks, hA, hK, hN⟩ := id E
  obtain ⟨hx, hb, hml, hown, hts⟩ := id C
  unfold r_sumAt_28 at hB
  refine lv_iinc (v := (x3 + 1)) (lv' := [(3, .int (x3 + 1)), (0, .ref h), (1, .int x1), (2, .int x2)]) hx hb dX11_sumAt_28 hl (k := 3) rfl (rfl) (by decide) rfl (fun ls hl => ?_)
  refine lv_goto (tgt := 4) hx hb dX11_sumAt_31 (by decide) ?_
  exact hk4 _ _ _ _ hB p e s0 m below meth c A E H locs ls hP hD hS (lv_sub hl [1, 2, 3, 0] rfl)
set_option maxHeartbeats 4000000 in
set_option maxRecDepth 100000 in
theorem br_sumAt_4 {l : Launch} {dC : Nat → ClassId} {dI : Nat → Nat → Nat} {cB cI cJ cZ cS : ClassId} {h : Nat} {a : Nat → Nat} {as : List Value} {r : Int32} {s' : RS} {k4 : RS → Int32 → Int32 → Int32 → Option (Int32 × RS)} (hk4 : ∀ (s : RS) (x1 : Int32) (x2 : Int32) (x3 : Int32), k4 s x1 x2 x3 = some (r, s') → BlkI l yX11_sumAt wsX11_sumAt ({ frames := 3, cells := 0, slots := 0, locals := 67 }) cX11_sumAt 4 (some .int) (dC, dI) (tysA cB cI cJ cZ cS) as 4 (mwS cB cI cJ cZ h a s) [(0, .ref h), (1, .int x1), (2, .int x2), (3, .int x3)] [] (fun x u => x = r ∧ u = (mwS cB cI cJ cZ h a s'))) (s : RS) (x1 : Int32) (x2 : Int32) (x3 : Int32) (hB : r_sumAt_4 k4 s x1 x2 x3 = some (r, s')) : BlkI l yX11_sumAt wsX11_sumAt ({ frames := 3, cells := 0, slots := 0, locals := 67 }) cX11_sumAt 4 (some .int) (dC, dI) (tysA cB cI cJ cZ cS) as 4 (mwS cB cI cJ cZ h a s) [(0, .ref h), (1, .int x1), (2, .int x2), (3, .int x3)] [] (fun x u => x = r ∧ u = (mwS cB cI cJ cZ h a s')) := by
  intro p e s0 m below meth c A E H locs ls hP hD hS hl
  obtain ⟨C, hr, hlocks, hA, hK, hN⟩ := id E
  obtain ⟨hx, hb, hml, hown, hts⟩ := id C
  unfold r_sumAt_4 at hB
  refine lv_iload_n hx hb dX11_sumAt_4 rfl (lv_at hl 3 rfl) ?_
  refine lv_bipush (v := 6) hx hb dX11_sumAt_5 (by decide) ?_
  refine lv_icmp_ge (tgt := 34) hx hb dX11_sumAt_7 (by decide) (fun c1 => ?_) (fun c1 => ?_)
  · have hB := if_p hB c1
    refine lv_iload_n hx hb dX11_sumAt_34 rfl (lv_at hl 2 rfl) ?_
    exact q_iret C hr hlocks hK hP hD hS (Nat.le_of_ble_eq_true rfl) (Nat.le_of_ble_eq_true rfl) dX11_sumAt_35 (by cases hB; exact ⟨rfl, rfl⟩)
  · have hB := if_n hB c1
    refine lv_aload_n hx hb dX11_sumAt_10 rfl (lv_at hl 0 rfl) ?_
    refine lv_iload_n hx hb dX11_sumAt_11 rfl (lv_at hl 1 rfl) ?_
    refine lv_iload_n hx hb dX11_sumAt_12 rfl (lv_at hl 3 rfl) ?_
    obtain ⟨q_, s2, hc, hB⟩ := bindI_inv hB
    refine q_goiF (va_runV (As := [.int x1, .int x3]) (rest := []) C (cr_mayBe hc _) (cwV 2 hts gX11_sumAt_X11_mayBe rfl rfl rfl (by decide +kernel) ⟨Nat.le_of_ble_eq_true rfl, Nat.le_of_ble_eq_true rfl⟩) (q_preV hK hP (ci := 11) (q0 := 0) rfl rfl rfl (q_preF hN hK hP hD)) rfl rfl hl.1 rfl (lv_room (Nat.le_of_ble_eq_true rfl)) dX11_sumAt_13 ⟨Nat.le_of_ble_eq_true rfl, Nat.le_of_ble_eq_true rfl⟩) hD hS hA (fun r3 w1 H locs hw hP hD hS => ?_)
    obtain ⟨hq_, hw⟩ := hw; subst hw; subst hq_
    refine lv_if_eq (tgt := 28) hx hb dX11_sumAt_16 (by decide) (fun c4 => ?_) (fun c4 => ?_)
    · have hB := if_p hB c4
      exact br_sumAt_28 (hk4) _ _ _ _ hB p e s0 m below meth c A E H locs ls hP hD hS (lv_sub hl [0, 1, 2, 3] rfl)
    · have hB := if_n hB c4
      refine lv_iload_n hx hb dX11_sumAt_19 rfl (lv_at hl 2 rfl) ?_
      refine lv_aload_n hx hb dX11_sumAt_20 rfl (lv_at hl 0 rfl) ?_
      refine lv_iload_n hx hb dX11_sumAt_21 rfl (lv_at hl 1 rfl) ?_
      refine lv_iload_n hx hb dX11_sumAt_22 rfl (lv_at hl 3 rfl) ?_
      obtain ⟨q_, s5, hc, hB⟩ := bindI_inv hB
      refine q_goiF (va_runV (As := [.int x1, .int x3]) (rest := [.int x2]) C (cr_oddsAt hc _) (cwV 2 hts gX11_sumAt_X11_oddsAt rfl rfl rfl (by decide +kernel) ⟨Nat.le_of_ble_eq_true rfl, Nat.le_of_ble_eq_true rfl⟩) (q_preV hK hP (ci := 11) (q0 := 0) rfl rfl rfl (q_preF hN hK hP hD)) rfl rfl hl.1 rfl (lv_room (Nat.le_of_ble_eq_true rfl)) dX11_sumAt_23 ⟨Nat.le_of_ble_eq_true rfl, Nat.le_of_ble_eq_true rfl⟩) hD hS hA (fun r6 w1 H locs hw hP hD hS => ?_)
      obtain ⟨hq_, hw⟩ := hw; subst hw; subst hq_
      refine lv_iadd hx hb dX11_sumAt_26 ?_
      refine lv_istore_n (lv' := [(2, .int (x2 + r6)), (0, .ref h), (1, .int x1), (3, .int x3)]) hx hb dX11_sumAt_27 rfl hl (by decide) rfl (fun ls hl => ?_)
      exact br_sumAt_28 (hk4) _ _ _ _ hB p e s0 m below meth c A E H locs ls hP hD hS (lv_sub hl [1, 2, 0, 3] rfl)
theorem br_sumAt_4L {l : Launch} {dC : Nat → ClassId} {dI : Nat → Nat → Nat} {cB cI cJ cZ cS : ClassId} {h : Nat} {a : Nat → Nat} {as : List Value} {r : Int32} {s' : RS} : ∀ (n : Nat) (s : RS) (x1 : Int32) (x2 : Int32) (x3 : Int32), r_sumAt_4L n s x1 x2 x3 = some (r, s') → BlkI l yX11_sumAt wsX11_sumAt ({ frames := 3, cells := 0, slots := 0, locals := 67 }) cX11_sumAt 4 (some .int) (dC, dI) (tysA cB cI cJ cZ cS) as 4 (mwS cB cI cJ cZ h a s) [(0, .ref h), (1, .int x1), (2, .int x2), (3, .int x3)] [] (fun x u => x = r ∧ u = (mwS cB cI cJ cZ h a s')) := by
  intro n
  induction n with
  | zero => intro s x1 x2 x3 hB; exact none_ne hB
  | succ n ih => intro s x1 x2 x3 hB; exact br_sumAt_4 ih _ _ _ _ hB
set_option maxHeartbeats 4000000 in
set_option maxRecDepth 100000 in
theorem br_sumAt {l : Launch} {dC : Nat → ClassId} {dI : Nat → Nat → Nat} {cB cI cJ cZ cS : ClassId} {h : Nat} {a : Nat → Nat} {as : List Value} {r : Int32} {s' : RS} (s : RS) (x1 : Int32) (hB : r_sumAt s x1 = some (r, s')) : BlkI l yX11_sumAt wsX11_sumAt ({ frames := 3, cells := 0, slots := 0, locals := 67 }) cX11_sumAt 4 (some .int) (dC, dI) (tysA cB cI cJ cZ cS) as 0 (mwS cB cI cJ cZ h a s) [(0, .ref h), (1, .int x1)] [] (fun x u => x = r ∧ u = (mwS cB cI cJ cZ h a s')) := by
  intro p e s0 m below meth c A E H locs ls hP hD hS hl
  obtain ⟨C, hr, hlocks, hA, hK, hN⟩ := id E
  obtain ⟨hx, hb, hml, hown, hts⟩ := id C
  unfold r_sumAt at hB
  refine lv_iconst (v := 0) hx hb dX11_sumAt_0 (by decide) ?_
  refine lv_istore_n (lv' := [(2, .int 0), (0, .ref h), (1, .int x1)]) hx hb dX11_sumAt_1 rfl hl (by decide) rfl (fun ls hl => ?_)
  refine lv_iconst (v := 0) hx hb dX11_sumAt_2 (by decide) ?_
  refine lv_istore_n (lv' := [(3, .int 0), (2, .int 0), (0, .ref h), (1, .int x1)]) hx hb dX11_sumAt_3 rfl hl (by decide) rfl (fun ls hl => ?_)
  exact br_sumAt_4L fu _ _ _ _ hB p e s0 m below meth c A E H locs ls hP hD hS (lv_sub hl [2, 3, 1, 0] rfl)
theorem cr_sumAt {l : Launch} {dC : Nat → ClassId} {dI : Nat → Nat → Nat} {cB cI cJ cZ cS : ClassId} {h : Nat} {a : Nat → Nat} {r : Int32} {s' : RS} {s : RS} {x1 : Int32} (hB : r_sumAt s x1 = some (r, s')) : CI l yX11_sumAt wsX11_sumAt ({ frames := 3, cells := 0, slots := 0, locals := 67 }) (dC, dI) (tysA cB cI cJ cZ cS) (mwS cB cI cJ cZ h a s) [.ref h, .int x1] (fun x u => x = r ∧ u = (mwS cB cI cJ cZ h a s')) :=
  CI_of (cc := cX11_sumAt) (maxL := 4) (ret := (some .int)) (by decide) rfl (Nat.le_of_ble_eq_true rfl) (br_sumAt _ _ hB)
theorem LX11_all_215 : Cond.fieldLink RX11 215 "GuessFerryModel" "live" "I" ∈ wsX11_all := by decide +kernel
theorem LX11_all_40 : Cond.fieldLink RX11 40 "GuessFerryModel" "waves" "[I" ∈ wsX11_all := by decide +kernel
theorem inX11_all_X11 : ∀ w ∈ u_ws RX11 TX11 58, w ∈ wsX11_all := by decide +kernel
set_option maxHeartbeats 4000000 in
set_option maxRecDepth 100000 in
theorem br_all_8 {l : Launch} {dC : Nat → ClassId} {dI : Nat → Nat → Nat} {cB cI cJ cZ cS : ClassId} {h : Nat} {a : Nat → Nat} {as : List Value} {r : Int32} {s' : RS} {k8 : RS → Int32 → Int32 → Option (Int32 × RS)} (hk8 : ∀ (s : RS) (x1 : Int32) (x2 : Int32), k8 s x1 x2 = some (r, s') → BlkI l yX11_all wsX11_all ({ frames := 4, cells := 0, slots := 0, locals := 90 }) cX11_all 3 (some .int) (dC, dI) (tysA cB cI cJ cZ cS) as 8 (mwS cB cI cJ cZ h a s) [(0, .ref h), (1, .int x1), (2, .int x2)] [] (fun x u => x = r ∧ u = (mwS cB cI cJ cZ h a s'))) (s : RS) (x1 : Int32) (x2 : Int32) (hB : r_all_8 k8 s x1 x2 = some (r, s')) : BlkI l yX11_all wsX11_all ({ frames := 4, cells := 0, slots := 0, locals := 90 }) cX11_all 3 (some .int) (dC, dI) (tysA cB cI cJ cZ cS) as 8 (mwS cB cI cJ cZ h a s) [(0, .ref h), (1, .int x1), (2, .int x2)] [] (fun x u => x = r ∧ u = (mwS cB cI cJ cZ h a s')) := by
  intro p e s0 m below meth c A E H locs ls hP hD hS hl
  obtain ⟨C, hr, hlocks, hA, hK, hN⟩ := id E
  obtain ⟨hx, hb, hml, hown, hts⟩ := id C
  unfold r_all_8 at hB
  refine lv_iload_n hx hb dX11_all_8 rfl (lv_at hl 2 rfl) ?_
  refine lv_aload_n hx hb dX11_all_9 rfl (lv_at hl 0 rfl) ?_
  refine q_get (v := .ref (a 20)) C inX11_all_X11 hK hP 0 rfl rfl 20 (by decide) rfl LX11_all_40 rfl dX11_all_10 ?_
  refine lv_aload_n hx hb dX11_all_13 rfl (lv_at hl 0 rfl) ?_
  refine q_get (v := .int (s.v 18)) C inX11_all_X11 hK hP 0 rfl rfl 18 (by decide) rfl LX11_all_215 rfl dX11_all_14 ?_
  obtain ⟨g1, hB⟩ := guard_inv hB
  refine q_iald (x := (s.f 20 (Int32.toNatClampNeg (s.v 18)))) C hK hP 8 1 rfl rfl (vpb_in g1) dX11_all_17 rfl ?_
  refine lv_icmp_ge (tgt := 35) hx hb dX11_all_18 (by decide) (fun c2 => ?_) (fun c2 => ?_)
  · have hB := if_p hB c2
    refine lv_iload_n hx hb dX11_all_35 rfl (lv_at hl 1 rfl) ?_
    exact q_iret C hr hlocks hK hP hD hS (Nat.le_of_ble_eq_true rfl) (Nat.le_of_ble_eq_true rfl) dX11_all_36 (by cases hB; exact ⟨rfl, rfl⟩)
  · have hB := if_n hB c2
    refine lv_iload_n hx hb dX11_all_21 rfl (lv_at hl 1 rfl) ?_
    refine lv_aload_n hx hb dX11_all_22 rfl (lv_at hl 0 rfl) ?_
    refine lv_iload_n hx hb dX11_all_23 rfl (lv_at hl 2 rfl) ?_
    obtain ⟨q_, s3, hc, hB⟩ := bindI_inv hB
    refine q_goiF (va_runV (As := [.int x2]) (rest := [.int x1]) C (cr_sumAt hc _) (cwV 1 hts gX11_all_X11_sumAt rfl rfl rfl (by decide +kernel) ⟨Nat.le_of_ble_eq_true rfl, Nat.le_of_ble_eq_true rfl⟩) (q_preV hK hP (ci := 11) (q0 := 0) rfl rfl rfl (q_preF hN hK hP hD)) rfl rfl hl.1 rfl (lv_room (Nat.le_of_ble_eq_true rfl)) dX11_all_24 ⟨Nat.le_of_ble_eq_true rfl, Nat.le_of_ble_eq_true rfl⟩) hD hS hA (fun r4 w1 H locs hw hP hD hS => ?_)
    obtain ⟨hq_, hw⟩ := hw; subst hw; subst hq_
    refine lv_imul hx hb dX11_all_27 ?_
    refine lv_istore_n (lv' := [(1, .int (x1 * r4)), (0, .ref h), (2, .int x2)]) hx hb dX11_all_28 rfl hl (by decide) rfl (fun ls hl => ?_)
    refine lv_iinc (v := (x2 + 1)) (lv' := [(2, .int (x2 + 1)), (1, .int (x1 * r4)), (0, .ref h)]) hx hb dX11_all_29 hl (k := 2) rfl (rfl) (by decide) rfl (fun ls hl => ?_)
    refine lv_goto (tgt := 8) hx hb dX11_all_32 (by decide) ?_
    exact hk8 _ _ _ hB p e s0 m below meth c A E H locs ls hP hD hS (lv_sub hl [2, 1, 0] rfl)
theorem br_all_8L {l : Launch} {dC : Nat → ClassId} {dI : Nat → Nat → Nat} {cB cI cJ cZ cS : ClassId} {h : Nat} {a : Nat → Nat} {as : List Value} {r : Int32} {s' : RS} : ∀ (n : Nat) (s : RS) (x1 : Int32) (x2 : Int32), r_all_8L n s x1 x2 = some (r, s') → BlkI l yX11_all wsX11_all ({ frames := 4, cells := 0, slots := 0, locals := 90 }) cX11_all 3 (some .int) (dC, dI) (tysA cB cI cJ cZ cS) as 8 (mwS cB cI cJ cZ h a s) [(0, .ref h), (1, .int x1), (2, .int x2)] [] (fun x u => x = r ∧ u = (mwS cB cI cJ cZ h a s')) := by
  intro n
  induction n with
  | zero => intro s x1 x2 hB; exact none_ne hB
  | succ n ih => intro s x1 x2 hB; exact br_all_8 ih _ _ _ hB
set_option maxHeartbeats 4000000 in
set_option maxRecDepth 100000 in
theorem br_all {l : Launch} {dC : Nat → ClassId} {dI : Nat → Nat → Nat} {cB cI cJ cZ cS : ClassId} {h : Nat} {a : Nat → Nat} {as : List Value} {r : Int32} {s' : RS} (s : RS) (hB : r_all s = some (r, s')) : BlkI l yX11_all wsX11_all ({ frames := 4, cells := 0, slots := 0, locals := 90 }) cX11_all 3 (some .int) (dC, dI) (tysA cB cI cJ cZ cS) as 0 (mwS cB cI cJ cZ h a s) [(0, .ref h)] [] (fun x u => x = r ∧ u = (mwS cB cI cJ cZ h a s')) := by
  intro p e s0 m below meth c A E H locs ls hP hD hS hl
  obtain ⟨C, hr, hlocks, hA, hK, hN⟩ := id E
  obtain ⟨hx, hb, hml, hown, hts⟩ := id C
  unfold r_all at hB
  refine lv_aload_n hx hb dX11_all_0 rfl (lv_at hl 0 rfl) ?_
  obtain ⟨s1, hc, hB⟩ := bindP_inv hB
  refine q_govF (va_runV (As := []) (rest := []) C (cr_copies hc _) (cwV 0 hts gX11_all_X11_copies rfl rfl rfl (by decide +kernel) ⟨Nat.le_of_ble_eq_true rfl, Nat.le_of_ble_eq_true rfl⟩) (q_preV hK hP (ci := 11) (q0 := 0) rfl rfl rfl (q_preF hN hK hP hD)) rfl rfl hl.1 rfl (lv_room (Nat.le_of_ble_eq_true rfl)) dX11_all_1 ⟨Nat.le_of_ble_eq_true rfl, Nat.le_of_ble_eq_true rfl⟩) hD hS hA (fun w1 H locs hw hP hD hS => ?_)
  subst hw
  refine lv_iconst (v := 1) hx hb dX11_all_4 (by decide) ?_
  refine lv_istore_n (lv' := [(1, .int 1), (0, .ref h)]) hx hb dX11_all_5 rfl hl (by decide) rfl (fun ls hl => ?_)
  refine lv_iconst (v := 0) hx hb dX11_all_6 (by decide) ?_
  refine lv_istore_n (lv' := [(2, .int 0), (1, .int 1), (0, .ref h)]) hx hb dX11_all_7 rfl hl (by decide) rfl (fun ls hl => ?_)
  exact br_all_8L fu _ _ _ hB p e s0 m below meth c A E H locs ls hP hD hS (lv_sub hl [2, 1, 0] rfl)
theorem cr_all {l : Launch} {dC : Nat → ClassId} {dI : Nat → Nat → Nat} {cB cI cJ cZ cS : ClassId} {h : Nat} {a : Nat → Nat} {r : Int32} {s' : RS} {s : RS} (hB : r_all s = some (r, s')) : CI l yX11_all wsX11_all ({ frames := 4, cells := 0, slots := 0, locals := 90 }) (dC, dI) (tysA cB cI cJ cZ cS) (mwS cB cI cJ cZ h a s) [.ref h] (fun x u => x = r ∧ u = (mwS cB cI cJ cZ h a s')) :=
  CI_of (cc := cX11_all) (maxL := 3) (ret := (some .int)) (by decide) rfl (Nat.le_of_ble_eq_true rfl) (br_all _ hB)
